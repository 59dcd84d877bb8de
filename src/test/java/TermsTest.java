/** The section "Terms": each sentence that names a boundary case has a test of its own here. */
public final class TermsTest {
    private static final Due due = new Due();

    public static void main(String[] args) {
        divisionsAreRoundedDown();
        timeIsToldFrom0To240();
        setsAreToldAsBits();
        atMostSixTenants();
        depositAndMonthOfComing();
        monthOfGoing();
        atMostTwelveThings();
        valueLifeMonthCondition();
        ofOneTenantOrShared();
        lastInventory();
        ageFromFirstToLast();
        restOfLifeAtLeast0();
        lossIfAbove0();
        nothingBeforeTheLastInventory();
        fourKindsOfProofs();
        disputesNeedALoss();
        disputesNeedAShare();
        keptIfNobodyDisputes();
        keptIfProvedOrNot();
        keptAsDecided();
        decisionStays();
        monthsFromTheLaterOne();
        monthsToTheEarlierOne();
        monthsAtLeast0();
        ownThingsAreBorneByTheirTenant();
        sharesByMonths();
        restOfRounding();
        borneByNobody();
        whoHasAShare();
        depositsAsFarAsTheyGo();
        settingsAndFirstValues();
        due.end();
    }

    private static void divisionsAreRoundedDown() {
        due.about("Terms: divisions are rounded down");
        DepositProofs x = new DepositProofs();
        for (int tenant = 0; tenant < 3; tenant++) {
            x.tenant(100, 0);
        }
        x.thing(100, 3, 0, 10, 0);
        due.is("loss", x.look(0, 0, 1), 60);
        due.is("fair condition: 20 by 3", x.thingOf(0, 8), 6);
        x.thing(19, 100, 0, 10, 0);
        due.is("loss: 95 by 10", x.look(1, 4, 1), 9);
        x.set(4, 0);
        due.is("kept: 450 by 100", x.dispute(1, 0), 4);
        due.is("kept: 891 by 100", x.decide(1, 99), 8);
        x.thing(10, 20, -1, 10, 0);
        due.is("loss", x.look(2, 0, 10), 5);
        due.is("share: 50 by 30, and 1 of the rest", x.shareOf(2, 0, 0), 2);
        due.is("share: 50 by 30", x.shareOf(2, 2, 0), 1);
    }

    private static void timeIsToldFrom0To240() {
        due.about("Terms: time is told in months from 0 to 240");
        due.range("coming", 0, 240, month -> new DepositProofs().tenant(5, month));
        due.range("going", 0, 240, month -> Due.after(x -> x.tenant(5, 0)).go(0, month));
        due.range("first inventory", 0, 240, month -> new DepositProofs().thing(5, 5, -1, 5, month));
        due.range("last inventory", 0, 240,
                month -> Due.after(x -> x.thing(5, 5, -1, 5, 0)).look(0, 5, month));
    }

    private static void setsAreToldAsBits() {
        due.about("Terms: bit k is for number k");
        for (int k = 0; k < 4; k++) {
            DepositProofs x = Due.after(TermsTest::six);
            x.proof(0, k);
            due.is("proof " + k, x.thingOf(0, 10), 1 << k);
        }
        for (int k = 0; k < 6; k++) {
            DepositProofs x = Due.after(TermsTest::six);
            x.dispute(0, k);
            due.is("tenant " + k, x.thingOf(0, 12), 1 << k);
        }
        for (int k = 0; k < 12; k++) {
            DepositProofs x = Due.after(y -> y.tenant(5, 0));
            x.tenant(5, 0);
            for (int thing = 0; thing < 12; thing++) {
                x.thing(10, 10, thing == k ? 0 : 1, 10, 0);
                x.look(thing, 0, 0);
                x.dispute(thing, thing == k ? 0 : 1);
            }
            due.is("thing " + k, x.tenantOf(0, 7), 1 << k);
            due.is("disputed thing " + k, x.tenantOf(0, 8), 1 << k);
            due.is("all things but " + k, x.tenantOf(1, 7), 4095 - (1 << k));
        }
    }

    /** Six tenants for all the time, and a shared thing with a loss of 60. */
    private static void six(DepositProofs x) {
        for (int tenant = 0; tenant < 6; tenant++) {
            x.tenant(100, 0);
        }
        x.thing(120, 20, -1, 10, 0);
        x.look(0, 0, 10);
    }

    private static void atMostSixTenants() {
        due.about("Terms: at most 6 tenants, numbered from 0");
        DepositProofs x = new DepositProofs();
        for (int tenant = 0; tenant < 6; tenant++) {
            due.is("tenant", x.tenant(5, 5), tenant);
        }
        due.is("a seventh", x.tenant(5, 5), Due.LIMIT);
        x.go(0, 6);
        due.is("a seventh when one has gone", x.tenant(5, 5), Due.LIMIT);
        x.undo();
        x.undo();
        due.is("the sixth again", x.tenant(6, 6), 5);
        due.is("they are 6", x.count(0), 6);
    }

    private static void depositAndMonthOfComing() {
        due.about("Terms: a deposit (0 to 9999) and a month of coming");
        DepositProofs x = new DepositProofs();
        x.tenant(0, 0);
        x.tenant(9999, 240);
        due.is("the least deposit", x.tenantOf(0, 0), 0);
        due.is("the first month", x.tenantOf(0, 1), 0);
        due.is("the most deposit", x.tenantOf(1, 0), 9999);
        due.is("the last month", x.tenantOf(1, 1), 240);
        due.range("deposit", 0, 9999, deposit -> new DepositProofs().tenant(deposit, 5));
    }

    private static void monthOfGoing() {
        due.about("Terms: a tenant who has gone has a month of going, too");
        DepositProofs x = Due.after(y -> y.tenant(5, 0));
        x.tenant(5, 0);
        due.is("not gone", x.tenantOf(0, 2), Due.NONE);
        x.go(0, 0);
        due.is("gone in month 0", x.tenantOf(0, 2), 0);
        due.is("the other one", x.tenantOf(1, 2), Due.NONE);
        x.go(1, 240);
        due.is("gone in month 240", x.tenantOf(1, 2), 240);
    }

    private static void atMostTwelveThings() {
        due.about("Terms: at most 12 things, numbered from 0");
        DepositProofs x = Due.after(y -> y.tenant(5, 5));
        for (int thing = 0; thing < 12; thing++) {
            due.is("thing", x.thing(5, 5, thing % 2 - 1, 5, 5), thing);
        }
        due.is("a thirteenth, shared", x.thing(5, 5, -1, 5, 5), Due.LIMIT);
        due.is("a thirteenth, of a tenant", x.thing(5, 5, 0, 5, 5), Due.LIMIT);
        x.undo();
        due.is("the twelfth again", x.thing(6, 6, -1, 6, 6), 11);
        due.is("they are 12", x.count(2), 12);
    }

    private static void valueLifeMonthCondition() {
        due.about("Terms: a value (1 to 999), a life (1 to 120), a month and a condition (0 to 10)");
        DepositProofs x = new DepositProofs();
        x.thing(1, 1, -1, 0, 0);
        x.thing(999, 120, -1, 10, 240);
        int[][] want = {{1, 1, Due.NONE, 0, 0}, {999, 120, Due.NONE, 10, 240}};
        for (int what = 0; what < 5; what++) {
            due.is("the least, " + what, x.thingOf(0, what), want[0][what]);
            due.is("the most, " + what, x.thingOf(1, what), want[1][what]);
        }
        due.range("value", 1, 999, value -> new DepositProofs().thing(value, 5, -1, 5, 5));
        due.range("life", 1, 120, life -> new DepositProofs().thing(5, life, -1, 5, 5));
        due.range("condition", 0, 10, condition -> new DepositProofs().thing(5, 5, -1, condition, 5));
    }

    private static void ofOneTenantOrShared() {
        due.about("Terms: a thing is of one tenant, or shared by all");
        DepositProofs x = Due.after(TermsTest::six);
        for (int tenant = 0; tenant < 6; tenant++) {
            x.thing(10, 10, tenant, 10, 0);
            x.look(tenant + 1, 0, 0);
        }
        due.is("shared", x.thingOf(0, 2), Due.NONE);
        for (int tenant = 0; tenant < 6; tenant++) {
            due.is("of " + tenant, x.thingOf(tenant + 1, 2), tenant);
            due.is("both things of " + tenant, x.tenantOf(tenant, 7), 1 | 2 << tenant);
            due.is("borne by " + tenant, x.tenantOf(tenant, 3), 20);
        }
    }

    private static void lastInventory() {
        due.about("Terms: when it is looked at again, it has a month and a condition of that, too");
        DepositProofs x = new DepositProofs();
        x.thing(10, 10, -1, 10, 0);
        x.thing(10, 10, -1, 10, 0);
        x.look(0, 0, 0);
        due.is("condition 0", x.thingOf(0, 5), 0);
        due.is("month 0", x.thingOf(0, 6), 0);
        due.is("the other has no condition", x.thingOf(1, 5), Due.NONE);
        due.is("the other has no month", x.thingOf(1, 6), Due.NONE);
        x.look(1, 10, 240);
        due.is("condition 10", x.thingOf(1, 5), 10);
        due.is("month 240", x.thingOf(1, 6), 240);
        due.is("the first condition stays", x.thingOf(0, 3), 10);
        due.is("the first month stays", x.thingOf(1, 4), 0);
    }

    private static void ageFromFirstToLast() {
        due.about("Terms: the age is the months from the first to the last inventory");
        int[][] rows = {{0, 0, 0}, {0, 240, 240}, {240, 240, 0}, {239, 240, 1}, {7, 19, 12}};
        for (int[] row : rows) {
            DepositProofs x = new DepositProofs();
            x.thing(10, 10, -1, 10, row[0]);
            x.look(0, 10, row[1]);
            due.is("age from " + row[0] + " to " + row[1], x.thingOf(0, 7), row[2]);
        }
    }

    private static void restOfLifeAtLeast0() {
        due.about("Terms: its life less its age, at least 0");
        // Life, first condition, age, fair condition.
        int[][] rows = {{10, 10, 0, 10}, {10, 10, 9, 1}, {10, 10, 10, 0}, {10, 10, 11, 0},
            {1, 10, 0, 10}, {1, 10, 1, 0}, {1, 10, 240, 0}, {120, 10, 119, 0}, {120, 10, 108, 1},
            {120, 10, 109, 0}, {120, 10, 240, 0}, {10, 0, 0, 0}, {10, 0, 20, 0}, {60, 10, 24, 6}};
        for (int[] row : rows) {
            DepositProofs x = new DepositProofs();
            x.thing(999, row[0], -1, row[1], 0);
            x.look(0, 0, row[2]);
            due.is("life " + row[0] + ", age " + row[2], x.thingOf(0, 8), row[3]);
        }
    }

    private static void lossIfAbove0() {
        due.about("Terms: the fair condition less the last condition (if that is above 0)");
        // Value, first condition, last condition, loss; the thing is looked at at once.
        int[][] rows = {{50, 5, 5, 0}, {50, 5, 6, 0}, {50, 0, 10, 0}, {50, 5, 4, 5}, {50, 5, 0, 25},
            {999, 10, 0, 999}, {999, 10, 10, 0}, {1, 10, 0, 1}, {1, 10, 1, 0}, {9, 1, 0, 0},
            {10, 1, 0, 1}};
        for (int[] row : rows) {
            DepositProofs x = new DepositProofs();
            x.thing(row[0], 10, -1, row[1], 7);
            due.is("from " + row[1] + " to " + row[2], x.look(0, row[2], 7), row[3]);
            due.is("its loss", x.thingOf(0, 9), row[3]);
        }
    }

    private static void nothingBeforeTheLastInventory() {
        due.about("Terms: no age, no fair condition and no loss before the last inventory");
        DepositProofs x = Due.after(y -> y.tenant(5, 0));
        x.thing(999, 10, 0, 10, 0);
        for (int what = 7; what <= 9; what++) {
            due.is("thingOf(0, " + what + ")", x.thingOf(0, what), Due.NONE);
        }
        due.is("losses", x.count(4), 0);
        due.is("kept", x.thingOf(0, 14), 0);
        due.is("dispute", x.dispute(0, 0), Due.IMPOSSIBLE);
        x.look(0, 10, 0);
        due.is("age after it", x.thingOf(0, 7), 0);
        due.is("fair condition after it", x.thingOf(0, 8), 10);
        due.is("loss after it", x.thingOf(0, 9), 0);
    }

    private static void fourKindsOfProofs() {
        due.about("Terms: proofs of four kinds; a thing has each of them or not");
        for (int set = 0; set < 16; set++) {
            DepositProofs x = new DepositProofs();
            x.thing(5, 5, -1, 5, 5);
            x.thing(5, 5, -1, 5, 5);
            int weight = 0;
            for (int kind = 0; kind < 4; kind++) {
                if ((set >> kind & 1) == 1) {
                    x.proof(1, kind);
                    weight += 2 + kind % 2;
                }
            }
            due.is("proofs", x.thingOf(1, 10), set);
            due.is("weight of " + set, x.thingOf(1, 11), weight);
            due.is("the other thing has none", x.thingOf(0, 10), 0);
        }
    }

    private static void disputesNeedALoss() {
        due.about("Terms: a tenant can dispute a thing that has a loss");
        DepositProofs x = Due.after(y -> y.tenant(5, 0));
        x.thing(10, 10, 0, 10, 0);
        x.thing(10, 10, 0, 10, 0);
        x.thing(1, 10, 0, 10, 0);
        due.is("before the last inventory", x.dispute(0, 0), Due.IMPOSSIBLE);
        x.look(0, 9, 0);
        x.look(1, 10, 0);
        x.look(2, 1, 0);
        due.is("a loss of 1", x.dispute(0, 0), 0);
        due.is("as it was", x.dispute(1, 0), Due.IMPOSSIBLE);
        due.is("a loss of 9 by 10", x.dispute(2, 0), Due.IMPOSSIBLE);
        due.is("disputes", x.tenantOf(0, 8), 1);
    }

    private static void disputesNeedAShare() {
        due.about("Terms: and of which the tenant has a share");
        DepositProofs x = Due.after(y -> y.tenant(5, 0));
        x.tenant(5, 9);
        x.tenant(5, 10);
        x.thing(10, 100, -1, 10, 0);
        x.thing(10, 100, 2, 10, 0);
        due.is("a loss of 1", x.look(0, 7, 10), 2);
        x.look(1, 7, 10);
        due.is("1 month, but nothing to bear", x.shareOf(0, 1, 0), 0);
        due.is("1 month", x.dispute(0, 1), 0);
        due.is("0 months", x.dispute(0, 2), Due.IMPOSSIBLE);
        due.is("0 months for an own thing", x.dispute(1, 2), 0);
        due.is("another one's thing", x.dispute(1, 0), Due.IMPOSSIBLE);
        due.is("nothing is kept any more", x.dispute(0, 0), 0);
    }

    private static void keptIfNobodyDisputes() {
        due.about("Terms: what is kept is its loss, if nobody disputes it");
        DepositProofs x = Due.after(TermsTest::six);
        due.is("without proofs", x.thingOf(0, 14), 60);
        x.dispute(0, 0);
        x.dispute(0, 5);
        x.decide(0, 10);
        due.is("two dispute it", x.thingOf(0, 14), 0);
        due.is("one of them agrees", x.agree(0, 0), 0);
        due.is("nobody disputes it any more", x.agree(0, 5), 60);
    }

    private static void keptIfProvedOrNot() {
        due.about("Terms: nothing if the weights of its proofs come to less than setting 4");
        DepositProofs x = Due.after(TermsTest::six);
        x.dispute(0, 3);
        due.is("0 of 5", x.thingOf(0, 14), 0);
        x.proof(0, 0);
        x.set(0, 4);
        due.is("4 of 5", x.thingOf(0, 14), 0);
        x.set(0, 5);
        due.is("5 of 5", x.thingOf(0, 14), 30);
        x.set(0, 6);
        due.is("6 of 5", x.thingOf(0, 14), 30);
        x.set(0, 0);
        x.set(4, 1);
        due.is("0 of 1", x.thingOf(0, 14), 0);
        x.set(4, 0);
        due.is("0 of 0", x.thingOf(0, 14), 30);
        for (int kind = 0; kind < 4; kind++) {
            x.set(kind, 20);
            x.proof(0, kind);
        }
        x.set(4, 80);
        due.is("80 of 80", x.thingOf(0, 14), 30);
        x.set(3, 19);
        due.is("79 of 80", x.thingOf(0, 14), 0);
    }

    private static void keptAsDecided() {
        due.about("Terms: times what was decided (0 to 100; 50 at first)");
        DepositProofs x = Due.after(TermsTest::six);
        due.is("decided at first", x.thingOf(0, 13), 50);
        x.set(4, 0);
        due.is("half", x.dispute(0, 0), 30);
        int[][] rows = {{0, 0}, {1, 0}, {2, 1}, {50, 30}, {99, 59}, {100, 60}};
        for (int[] row : rows) {
            due.is("decide(0, " + row[0] + ")", x.decide(0, row[0]), row[1]);
            due.is("decided", x.thingOf(0, 13), row[0]);
            due.is("kept", x.thingOf(0, 14), row[1]);
        }
    }

    private static void decisionStays() {
        due.about("Terms: it stays, whoever disputes");
        DepositProofs x = Due.after(TermsTest::six);
        x.set(4, 0);
        x.dispute(0, 0);
        x.decide(0, 90);
        due.is("another one disputes, too", x.dispute(0, 1), 54);
        x.agree(0, 0);
        due.is("the first one agrees", x.thingOf(0, 13), 90);
        x.agree(0, 1);
        due.is("nobody disputes it", x.thingOf(0, 13), 90);
        due.is("a third one disputes", x.dispute(0, 2), 54);
    }

    /** The months of a tenant from coming to going (-1: not gone) for a shared thing. */
    private static int months(int coming, int going, int first, int last) {
        DepositProofs x = new DepositProofs();
        x.tenant(5, coming);
        if (going >= 0) {
            x.go(0, going);
        }
        x.thing(10, 10, -1, 10, first);
        x.look(0, 10, last);
        return x.shareOf(0, 0, 1);
    }

    private static void monthsFromTheLaterOne() {
        due.about("Terms: from the later one of the tenant's coming and the first inventory");
        due.is("came earlier", months(9, -1, 10, 20), 10);
        due.is("came in the same month", months(10, -1, 10, 20), 10);
        due.is("came later", months(11, -1, 10, 20), 9);
        due.is("from 0", months(0, -1, 0, 240), 240);
    }

    private static void monthsToTheEarlierOne() {
        due.about("Terms: to the earlier one of the tenant's going and the last inventory");
        due.is("not gone", months(5, -1, 10, 20), 10);
        due.is("gone later", months(5, 21, 10, 20), 10);
        due.is("gone in the same month", months(5, 20, 10, 20), 10);
        due.is("gone earlier", months(5, 19, 10, 20), 9);
        due.is("gone in month 240", months(0, 240, 0, 240), 240);
    }

    private static void monthsAtLeast0() {
        due.about("Terms: at least 0");
        due.is("gone in the month of the first inventory", months(5, 10, 10, 20), 0);
        due.is("gone before the first inventory", months(5, 9, 10, 20), 0);
        due.is("gone in month 0", months(0, 0, 10, 20), 0);
        due.is("came in the month of the last inventory", months(20, -1, 10, 20), 0);
        due.is("came after the last inventory", months(21, -1, 10, 20), 0);
        due.is("came and gone in a month", months(15, 15, 10, 20), 0);
        due.is("both inventories in a month", months(5, -1, 10, 10), 0);
    }

    private static void ownThingsAreBorneByTheirTenant() {
        due.about("Terms: what is kept for a thing of one tenant is that tenant's share");
        for (int owner = 0; owner < 6; owner++) {
            DepositProofs x = Due.after(TermsTest::six);
            x.go(owner, 0);
            x.thing(100, 10, owner, 10, 20);
            x.look(1, 0, 20);
            for (int tenant = 0; tenant < 6; tenant++) {
                due.is("share of " + tenant, x.shareOf(1, tenant, 0), tenant == owner ? 100 : 0);
            }
            due.is("kept, though without months", x.thingOf(1, 14), 100);
        }
    }

    /** A shared thing from 0 to 120 with a loss; the tenants go after these months. */
    private static DepositProofs shared(int loss, int... months) {
        DepositProofs x = new DepositProofs();
        for (int tenant = 0; tenant < months.length; tenant++) {
            x.tenant(100, 0);
            x.go(tenant, months[tenant]);
        }
        // At half of its life the fair condition is half of the first one.
        x.thing(2 * loss, 120, -1, 10, 0);
        x.look(0, 0, 60);
        return x;
    }

    private static void shares(DepositProofs x, int... want) {
        for (int tenant = 0; tenant < want.length; tenant++) {
            due.is("share of " + tenant, x.shareOf(0, tenant, 0), want[tenant]);
        }
    }

    private static void sharesByMonths() {
        due.about("Terms: each tenant bears it times the own months, divided by those of all");
        shares(shared(60, 10, 20, 30), 10, 20, 30);
        shares(shared(60, 60), 60);
        shares(shared(60, 0, 60, 0), 0, 60, 0);
        shares(shared(60, 1, 0, 59), 1, 0, 59);
        // Nobody bears more for months after the last inventory.
        shares(shared(60, 60, 240), 30, 30);
    }

    private static void restOfRounding() {
        due.about("Terms: borne by the tenants with months, 1 each, the lowest ones first");
        shares(shared(61, 10, 10), 31, 30);
        shares(shared(5, 9, 9, 9), 2, 2, 1);
        shares(shared(4, 9, 9, 9), 2, 1, 1);
        shares(shared(3, 9, 9, 9), 1, 1, 1);
        shares(shared(1, 0, 1, 59), 0, 1, 0);
        shares(shared(2, 0, 9, 0, 9, 0, 9), 0, 1, 0, 1, 0, 0);
        shares(shared(5, 9, 9, 9, 9, 9, 9), 1, 1, 1, 1, 1, 0);
        shares(shared(11, 9, 9, 9, 9, 9, 9), 2, 2, 2, 2, 2, 1);
        shares(shared(7, 1, 60, 1), 1, 6, 0);
    }

    private static void borneByNobody() {
        due.about("Terms: if nobody has months for it, it is borne by nobody and nothing is kept");
        DepositProofs x = shared(60, 0, 0);
        shares(x, 0, 0);
        due.is("kept", x.thingOf(0, 14), 0);
        due.is("kept of all", x.count(5), 0);
        due.is("its loss stays", x.thingOf(0, 9), 60);
        x.tenant(5, 60);
        due.is("with one who came too late", x.thingOf(0, 14), 0);
        x.tenant(5, 59);
        due.is("with one who has a month", x.thingOf(0, 14), 60);
        due.is("who bears all", x.shareOf(0, 3, 0), 60);
        due.is("without tenants", shared(60).thingOf(0, 14), 0);
    }

    private static void whoHasAShare() {
        due.about("Terms: a share if it is the tenant's, or if it is shared and the tenant has months");
        DepositProofs x = shared(60, 0, 1);
        x.thing(5, 5, 0, 5, 100);
        due.is("an own thing, not looked at", x.tenantOf(0, 7), 2);
        due.is("a shared one by 1 month", x.tenantOf(1, 7), 1);
        x.look(1, 5, 100);
        due.is("an own thing without loss or months", x.tenantOf(0, 7), 2);
        x.thing(5, 5, -1, 5, 0);
        due.is("a shared one, not looked at", x.tenantOf(1, 7), 1);
        x.look(2, 5, 1);
        due.is("a shared one without loss", x.tenantOf(1, 7), 5);
        due.is("without months", x.tenantOf(0, 7), 2);
    }

    private static void depositsAsFarAsTheyGo() {
        due.about("Terms: kept as far as the deposit goes, the rest paid back, what is above it owed");
        // Deposit, borne, kept, paid back, owed.
        int[][] rows = {{100, 0, 0, 100, 0}, {100, 1, 1, 99, 0}, {100, 99, 99, 1, 0},
            {100, 100, 100, 0, 0}, {100, 101, 100, 0, 1}, {0, 0, 0, 0, 0}, {0, 1, 0, 0, 1},
            {0, 999, 0, 0, 999}, {9999, 999, 999, 9000, 0}};
        for (int[] row : rows) {
            DepositProofs x = new DepositProofs();
            x.tenant(row[0], 0);
            if (row[1] > 0) {
                x.thing(row[1], 10, 0, 10, 0);
                x.look(0, 0, 0);
            }
            for (int i = 0; i < 4; i++) {
                due.is("deposit " + row[0] + ", borne " + row[1] + ": " + (3 + i),
                        x.tenantOf(0, 3 + i), row[1 + i]);
            }
        }
        DepositProofs x = Due.after(y -> y.tenant(30, 0));
        x.tenant(70, 0);
        x.thing(50, 10, 0, 10, 0);
        x.thing(50, 10, 1, 10, 0);
        x.look(0, 0, 0);
        x.look(1, 0, 0);
        due.is("one deposit is not kept for another tenant", x.count(7), 20);
        due.is("and what is owed is owed all the same", x.count(8), 20);
    }

    private static void settingsAndFirstValues() {
        due.about("Terms: settings (in parentheses: range; first value)");
        int[] most = {20, 20, 20, 20, 80};
        int[] first = {2, 3, 2, 3, 5};
        for (int what = 0; what < 5; what++) {
            int setting = what;
            due.is("first value of " + what, new DepositProofs().count(20 + what), first[what]);
            due.range("setting " + what, 0, most[what], value -> new DepositProofs().set(setting, value));
        }
    }
}
