/** Promises 11 to 15: tenantOf, thingOf, shareOf, orderAt, count. */
public final class AnswersTest {
    private static final Due due = new Due();

    public static void main(String[] args) {
        ofTenants();
        ofThings();
        months();
        sharesByMonths();
        sharesOfOwnThings();
        orders();
        counts();
        manyThings();
        manyTenants();
        allPlacesTaken();
        due.end();
    }

    /**
     * Tenants 0 (from 0), 1 (from 6 to 12) and 2 (from 24); things: 0 shared, loss 100;
     * 1 of tenant 1, loss 64; 2 of tenant 2, not looked at again; 3 of tenant 1, no loss.
     */
    private static DepositProofs flat() {
        DepositProofs x = new DepositProofs();
        x.tenant(300, 0);
        x.tenant(60, 6);
        x.tenant(0, 24);
        x.thing(500, 60, -1, 10, 0);
        x.thing(80, 20, 1, 10, 6);
        x.thing(70, 30, 2, 9, 24);
        x.thing(10, 30, 1, 9, 6);
        x.look(0, 4, 24);
        x.look(1, 1, 7);
        x.look(3, 9, 8);
        x.go(1, 12);
        return x;
    }

    private static void ofTenants() {
        due.about("promise 11");
        DepositProofs x = flat();
        // Of the loss of 100 the months 24 and 6 are 80 and 20; the fair condition of 1 is 9.
        int[][] want = {
            {300, 0, Due.NONE, 80, 80, 220, 0, 1, 0},
            {60, 6, 12, 84, 60, 0, 24, 11, 0},
            {0, 24, Due.NONE, 0, 0, 0, 0, 4, 0},
        };
        for (int tenant = 0; tenant < 3; tenant++) {
            for (int what = 0; what < 9; what++) {
                due.is("tenantOf(" + tenant + ", " + what + ")", x.tenantOf(tenant, what),
                        want[tenant][what]);
            }
            due.is("what -1", x.tenantOf(tenant, -1), Due.INVALID);
            due.is("what 9", x.tenantOf(tenant, 9), Due.INVALID);
            for (int far : Due.FAR) {
                due.is("what far", x.tenantOf(tenant, far), Due.INVALID);
            }
        }
        due.is("tenantOf(-1, 0)", x.tenantOf(-1, 0), Due.INVALID);
        due.is("tenantOf(3, 0)", x.tenantOf(3, 0), Due.INVALID);
        due.is("tenantOf(3, 2)", x.tenantOf(3, 2), Due.INVALID);
        for (int far : Due.FAR) {
            due.is("tenantOf(far, 0)", x.tenantOf(far, 0), Due.INVALID);
        }
        x.dispute(0, 1);
        x.dispute(1, 1);
        x.dispute(0, 0);
        due.is("disputes of 0", x.tenantOf(0, 8), 1);
        due.is("disputes of 1", x.tenantOf(1, 8), 3);
        due.is("disputes of 2", x.tenantOf(2, 8), 0);
        due.is("shares of 1", x.tenantOf(1, 3), 0);
        due.is("things of 1", x.tenantOf(1, 7), 11);
        due.is("paid back to 1", x.tenantOf(1, 5), 60);
        x = new DepositProofs();
        x.tenant(10, 0);
        x.thing(10, 10, 0, 10, 0);
        x.look(0, 0, 0);
        due.is("kept is all", x.tenantOf(0, 4), 10);
        due.is("nothing is paid back", x.tenantOf(0, 5), 0);
        due.is("nothing is owed", x.tenantOf(0, 6), 0);
        x.thing(11, 10, 0, 10, 0);
        x.look(1, 9, 0);
        due.is("1 more is owed", x.tenantOf(0, 6), 1);
        due.is("kept is all still", x.tenantOf(0, 4), 10);
    }

    private static void ofThings() {
        due.about("promise 12");
        DepositProofs x = flat();
        x.proof(1, 1);
        x.proof(1, 2);
        x.dispute(1, 1);
        x.decide(1, 75);
        int none = Due.NONE;
        int[][] want = {
            {500, 60, none, 10, 0, 4, 24, 24, 6, 100, 0, 0, 0, 50, 100},
            {80, 20, 1, 10, 6, 1, 7, 1, 9, 64, 6, 5, 2, 75, 48},
            {70, 30, 2, 9, 24, none, none, none, none, none, 0, 0, 0, 50, 0},
            {10, 30, 1, 9, 6, 9, 8, 2, 8, 0, 0, 0, 0, 50, 0},
        };
        for (int thing = 0; thing < 4; thing++) {
            for (int what = 0; what < 15; what++) {
                due.is("thingOf(" + thing + ", " + what + ")", x.thingOf(thing, what),
                        want[thing][what]);
            }
            due.is("what -1", x.thingOf(thing, -1), Due.INVALID);
            due.is("what 15", x.thingOf(thing, 15), Due.INVALID);
            for (int far : Due.FAR) {
                due.is("what far", x.thingOf(thing, far), Due.INVALID);
            }
        }
        due.is("thingOf(-1, 0)", x.thingOf(-1, 0), Due.INVALID);
        due.is("thingOf(4, 0)", x.thingOf(4, 0), Due.INVALID);
        due.is("thingOf(4, 5)", x.thingOf(4, 5), Due.INVALID);
        for (int far : Due.FAR) {
            due.is("thingOf(far, 0)", x.thingOf(far, 0), Due.INVALID);
        }
        x = new DepositProofs();
        x.thing(100, 100, -1, 10, 0);
        x.look(0, 0, 10);
        due.is("a loss", x.thingOf(0, 9), 90);
        due.is("nobody there: nothing is kept", x.thingOf(0, 14), 0);
        x.tenant(5, 10);
        due.is("nobody has months: nothing is kept", x.thingOf(0, 14), 0);
        x.tenant(5, 9);
        due.is("one month: all is kept", x.thingOf(0, 14), 90);
    }

    private static void months() {
        due.about("promise 13, months");
        // coming, going (-1: not), first inventory, last inventory, months
        int[][] rows = {
            {0, -1, 0, 10, 10}, {5, -1, 0, 10, 5}, {0, -1, 5, 10, 5}, {0, 7, 5, 10, 2},
            {0, 20, 5, 10, 5}, {0, 10, 5, 10, 5}, {0, 5, 5, 10, 0}, {0, 4, 5, 10, 0},
            {10, -1, 5, 10, 0}, {11, -1, 5, 10, 0}, {11, 12, 5, 10, 0}, {6, 9, 5, 10, 3},
            {7, 7, 5, 10, 0}, {0, 240, 0, 240, 240}, {240, -1, 0, 240, 0}, {3, -1, 4, 4, 0},
            {0, 0, 0, 5, 0}, {1, 1, 3, 9, 0},
        };
        for (int[] row : rows) {
            DepositProofs x = new DepositProofs();
            x.tenant(1, row[0]);
            x.tenant(1, 0);
            x.thing(10, 10, -1, 10, row[2]);
            x.thing(10, 10, 1, 10, row[2]);
            if (row[1] >= 0) {
                x.go(0, row[1]);
            }
            due.is("before the last inventory", x.shareOf(0, 0, 1), 0);
            x.look(0, 5, row[3]);
            x.look(1, 5, row[3]);
            due.is("months of a shared thing", x.shareOf(0, 0, 1), row[4]);
            due.is("months of another one's thing", x.shareOf(1, 0, 1), row[4]);
            due.is("a share or not", x.tenantOf(0, 7), row[4] > 0 ? 1 : 0);
        }
    }

    private static void sharesByMonths() {
        due.about("promise 13, shares by months");
        // Months of six tenants, loss, shares of the six.
        int[][] rows = {
            {0, 10, 10, 10, 0, 0, 14, 0, 5, 5, 4, 0, 0},
            {6, 12, 18, 0, 0, 0, 100, 17, 33, 50, 0, 0, 0},
            {5, 5, 5, 5, 5, 5, 5, 1, 1, 1, 1, 1, 0},
            {5, 5, 5, 5, 5, 5, 11, 2, 2, 2, 2, 2, 1},
            {5, 5, 5, 5, 5, 5, 12, 2, 2, 2, 2, 2, 2},
            {1, 0, 0, 0, 0, 0, 99, 99, 0, 0, 0, 0, 0},
            {0, 0, 0, 0, 0, 1, 99, 0, 0, 0, 0, 0, 99},
            {20, 0, 1, 0, 1, 0, 1, 1, 0, 0, 0, 0, 0},
            {1, 0, 1, 0, 20, 0, 2, 1, 0, 0, 0, 1, 0},
            {0, 0, 0, 0, 0, 0, 99, 0, 0, 0, 0, 0, 0},
            {19, 13, 7, 3, 2, 1, 97, 41, 29, 15, 6, 4, 2},
            {19, 13, 7, 3, 2, 1, 95, 41, 28, 14, 6, 4, 2},
        };
        for (int[] row : rows) {
            DepositProofs x = new DepositProofs();
            for (int tenant = 0; tenant < 6; tenant++) {
                x.tenant(500, 0);
                x.go(tenant, row[tenant]);
            }
            x.thing(row[6], 120, -1, 10, 0);
            due.is("before the last inventory", x.shareOf(0, 0, 0), 0);
            x.look(0, 0, 0);
            due.is("no months at all", x.shareOf(0, 0, 0), 0);
            x.undo();
            lose(x, row[6]);
            int sum = 0;
            for (int tenant = 0; tenant < 6; tenant++) {
                due.is("share of " + tenant, x.shareOf(1, tenant, 0), row[7 + tenant]);
                due.is("months of " + tenant, x.shareOf(1, tenant, 1), row[tenant]);
                due.is("all shares of " + tenant, x.tenantOf(tenant, 3), row[7 + tenant]);
                sum += x.shareOf(1, tenant, 0);
            }
            due.is("kept is what is borne", x.thingOf(1, 14), sum);
        }
        wrongShares();
    }

    /** Adds a shared thing, from 0 to 20, with this loss: its fair condition is 5, its last 0. */
    private static void lose(DepositProofs x, int loss) {
        x.thing(loss * 2, 40, -1, 10, 0);
        due.is("the loss", x.look(1, 0, 20), loss);
    }

    private static void wrongShares() {
        DepositProofs x = flat();
        due.is("thing -1", x.shareOf(-1, 0, 0), Due.INVALID);
        due.is("thing 4", x.shareOf(4, 0, 0), Due.INVALID);
        due.is("tenant -1", x.shareOf(0, -1, 0), Due.INVALID);
        due.is("tenant 3", x.shareOf(0, 3, 0), Due.INVALID);
        due.is("what -1", x.shareOf(0, 0, -1), Due.INVALID);
        due.is("what 2", x.shareOf(0, 0, 2), Due.INVALID);
        for (int far : Due.FAR) {
            due.is("thing far", x.shareOf(far, 0, 0), Due.INVALID);
            due.is("tenant far", x.shareOf(0, far, 0), Due.INVALID);
            due.is("what far", x.shareOf(0, 0, far), Due.INVALID);
        }
    }

    private static void sharesOfOwnThings() {
        due.about("promise 13, own things");
        DepositProofs x = flat();
        due.is("of tenant 1", x.shareOf(1, 1, 0), 64);
        due.is("not of tenant 0", x.shareOf(1, 0, 0), 0);
        due.is("not looked at", x.shareOf(2, 2, 0), 0);
        due.is("not looked at, months", x.shareOf(2, 2, 1), 0);
        due.is("no loss", x.shareOf(3, 1, 0), 0);
        x.dispute(1, 1);
        due.is("disputed", x.shareOf(1, 1, 0), 0);
        x.proof(1, 0);
        x.proof(1, 1);
        due.is("proved", x.shareOf(1, 1, 0), 32);
        x.thing(80, 20, 2, 10, 0);
        x.look(4, 1, 1);
        due.is("an own thing without months", x.shareOf(4, 2, 0), 64);
        due.is("its months", x.shareOf(4, 2, 1), 0);
        due.is("it is kept", x.thingOf(4, 14), 64);
    }

    private static void orders() {
        due.about("promise 14");
        DepositProofs x = flat();
        // Losses 100, 64, none, 0, 64; values 500, 80, 70, 10, 80.
        x.thing(80, 20, 1, 10, 6);
        x.look(4, 1, 7);
        int[][] want = {{0, 1, 4, 2, 3}, {0, 1, 4, 2, 3}, {3, 2, 1, 4, 0}};
        checkOrders(x, want);
        x.dispute(0, 0);
        checkOrders(x, new int[][] {{1, 4, 0, 2, 3}, want[1], want[2]});
        x.set(4, 0);
        checkOrders(x, new int[][] {{1, 4, 0, 2, 3}, want[1], want[2]});
        x.decide(0, 64);
        checkOrders(x, new int[][] {{0, 1, 4, 2, 3}, want[1], want[2]});
        x.decide(0, 63);
        checkOrders(x, new int[][] {{1, 4, 0, 2, 3}, want[1], want[2]});
        due.is("order -1", x.orderAt(-1, 0), Due.INVALID);
        due.is("order 3", x.orderAt(3, 0), Due.INVALID);
        due.is("place -1", x.orderAt(0, -1), Due.INVALID);
        due.is("order 3, place 5", x.orderAt(3, 5), Due.INVALID);
        due.is("place 12", x.orderAt(0, 12), Due.NONE);
        due.is("the last place", x.orderAt(0, Integer.MAX_VALUE), Due.NONE);
        due.is("the lowest place", x.orderAt(0, Integer.MIN_VALUE), Due.INVALID);
        for (int far : Due.FAR) {
            due.is("order far", x.orderAt(far, 0), Due.INVALID);
        }
        x = new DepositProofs();
        for (int thing = 0; thing < 12; thing++) {
            x.thing(100 - thing, 10, -1, 5, 5);
        }
        for (int place = 0; place < 12; place++) {
            due.is("equal ones", x.orderAt(0, place), place);
            due.is("equal losses", x.orderAt(1, place), place);
            due.is("by values", x.orderAt(2, place), 11 - place);
        }
    }

    private static void checkOrders(DepositProofs x, int[][] want) {
        for (int order = 0; order < 3; order++) {
            for (int place = 0; place < 5; place++) {
                due.is("orderAt(" + order + ", " + place + ")", x.orderAt(order, place),
                        want[order][place]);
            }
            due.is("not so many", x.orderAt(order, 5), Due.NONE);
        }
    }

    private static void counts() {
        due.about("promise 15");
        DepositProofs x = flat();
        checkCounts(x, new int[] {3, 1, 4, 3, 164, 164, 360, 220, 24, 0, 0, 4, 0});
        x.thing(100, 100, -1, 10, 30);
        x.look(4, 0, 30);
        // Nobody has months for thing 4: its loss of 100 is kept of nobody.
        checkCounts(x, new int[] {3, 1, 5, 4, 264, 164, 360, 220, 24, 0, 0, 4, 0});
        x.dispute(0, 0);
        x.dispute(0, 1);
        x.dispute(1, 1);
        checkCounts(x, new int[] {3, 1, 5, 4, 264, 0, 360, 360, 0, 3, 2, 4, 0});
        x.proof(0, 0);
        x.proof(0, 1);
        Due.type(x, "abc");
        checkCounts(x, new int[] {3, 1, 5, 4, 264, 50, 360, 310, 0, 3, 1, 4, 3});
        x.set(4, 6);
        checkCounts(x, new int[] {3, 1, 5, 4, 264, 0, 360, 360, 0, 3, 2, 4, 3});
        x.undo();
        due.is("states in the history", x.count(11), 3);
        for (int what : new int[] {-1, 13, 14, 19, 25, 26, 32}) {
            due.is("count(" + what + ")", x.count(what), Due.INVALID);
        }
        for (int far : Due.FAR) {
            due.is("count(far)", x.count(far), Due.INVALID);
        }
        for (int setting = 0; setting < 5; setting++) {
            x.set(setting, 11 + setting);
        }
        for (int setting = 0; setting < 5; setting++) {
            due.is("count of a setting", x.count(20 + setting), 11 + setting);
        }
    }

    private static void manyThings() {
        due.about("promises 11 and 15, one tenant with twelve things");
        DepositProofs x = new DepositProofs();
        x.tenant(100, 0);
        for (int thing = 0; thing < 12; thing++) {
            x.thing(10 + thing, 10, 0, 10, 0);
            x.look(thing, 0, 0);
        }
        checkCounts(x, new int[] {1, 0, 12, 12, 186, 186, 100, 0, 86, 0, 0, 4, 0});
        for (int thing = 0; thing < 12; thing++) {
            due.is("dispute", x.dispute(thing, 0), 0);
            due.is("disputes so far", x.tenantOf(0, 8), (2 << thing) - 1);
        }
        checkCounts(x, new int[] {1, 0, 12, 12, 186, 0, 100, 100, 0, 12, 12, 4, 0});
        x.agree(11, 0);
        checkCounts(x, new int[] {1, 0, 12, 12, 186, 21, 100, 79, 0, 11, 11, 4, 0});
        due.is("things with a share", x.tenantOf(0, 7), 4095);
        due.is("first by what is kept", x.orderAt(0, 0), 11);
        due.is("first by losses", x.orderAt(1, 0), 11);
        due.is("last by values", x.orderAt(2, 11), 11);
    }

    private static void manyTenants() {
        due.about("promises 11 and 15, six tenants with one thing");
        for (int owner = 0; owner < 6; owner++) {
            DepositProofs x = new DepositProofs();
            for (int tenant = 0; tenant < 6; tenant++) {
                x.tenant(10 + tenant, 0);
            }
            x.thing(20, 10, owner, 10, 0);
            x.look(0, 0, 0);
            x.go(owner, 6);
            checkCounts(x, new int[] {6, 1, 1, 1, 20, 20, 75, 65 - owner, 10 - owner, 0, 0, 4, 0});
            for (int tenant = 0; tenant < 6; tenant++) {
                due.is("borne", x.tenantOf(tenant, 3), tenant == owner ? 20 : 0);
                due.is("things with a share", x.tenantOf(tenant, 7), tenant == owner ? 1 : 0);
            }
        }
    }

    /** With all tenants and things each call of the face stays within its rows. */
    private static void allPlacesTaken() {
        due.about("six tenants and twelve things");
        DepositProofs x = new DepositProofs();
        for (int tenant = 0; tenant < 6; tenant++) {
            x.tenant(10, tenant);
        }
        for (int thing = 0; thing < 12; thing++) {
            x.thing(60, 20, -1, 10, 0);
            x.look(thing, 0, 10);
            for (int tenant = 0; tenant < 6; tenant++) {
                due.is("dispute", x.dispute(thing, tenant), 0);
            }
        }
        checkCounts(x, new int[] {6, 0, 12, 12, 360, 0, 60, 60, 0, 72, 12, 4, 0});
        x.set(4, 0);
        checkCounts(x, new int[] {6, 0, 12, 12, 360, 180, 60, 0, 120, 72, 0, 4, 0});
        // Months 10 to 5, all are 45; of 15 they make 3, 3, 2, 2, 2 and 1, and 2 are left.
        int[] shares = {4, 4, 2, 2, 2, 1};
        for (int tenant = 0; tenant < 6; tenant++) {
            due.is("share", x.shareOf(11, tenant, 0), shares[tenant]);
            due.is("borne", x.tenantOf(tenant, 3), 12 * shares[tenant]);
            due.is("things with a share", x.tenantOf(tenant, 7), 4095);
            due.is("disputes", x.tenantOf(tenant, 8), 4095);
            due.is("saved", x.wouldSave(tenant), 0);
        }
        due.is("order", x.orderAt(0, 11), 11);
        due.is("not so many", x.orderAt(0, 12), Due.NONE);
        due.is("best proof", x.bestProof(0), Due.NONE);
        due.is("all is kept", x.keptBits(), Float.floatToIntBits(1f));
        due.is("care", x.careBits(), Float.floatToIntBits(-5f));
    }

    private static void checkCounts(DepositProofs x, int[] want) {
        for (int what = 0; what < want.length; what++) {
            due.is("count(" + what + ")", x.count(what), want[what]);
        }
    }
}
