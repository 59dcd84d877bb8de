/** Promises 1 to 5: a new object, tenant, go, thing, look. */
public final class TenantsThingsTest {
    private static final Due due = new Due();

    public static void main(String[] args) {
        newObject();
        tenantsCome();
        tenantsGo();
        thingsAreAdded();
        thingsAreLookedAt();
        wearByAge();
        due.end();
    }

    private static void newObject() {
        due.about("promise 1");
        DepositProofs x = new DepositProofs();
        for (int what = 0; what <= 12; what++) {
            due.is("count(" + what + ")", x.count(what), 0);
        }
        int[] settings = {2, 3, 2, 3, 5};
        for (int setting = 0; setting < 5; setting++) {
            due.is("count(2x)", x.count(20 + setting), settings[setting]);
        }
        due.is("tenantOf(0, 0)", x.tenantOf(0, 0), Due.INVALID);
        due.is("thingOf(0, 0)", x.thingOf(0, 0), Due.INVALID);
        due.is("orderAt(0, 0)", x.orderAt(0, 0), Due.NONE);
        due.is("bestProof(0)", x.bestProof(0), Due.NONE);
        due.is("keptBits()", x.keptBits(), Due.NONE);
        due.is("careBits()", x.careBits(), Due.NONE);
        due.is("fault(0)", x.fault(0), Due.NONE);
        due.is("undo()", x.undo(), Due.IMPOSSIBLE);
        due.is("clearText()", x.clearText(), 0);
        DepositProofs y = new DepositProofs();
        due.is("tenant(5, 5)", y.tenant(5, 5), 0);
        due.is("thing of y", y.thing(5, 5, 0, 5, 5), 0);
        due.is("set of y", y.set(4, 9), 5);
        due.is("x has no tenant of y", x.count(0), 0);
        due.is("x has no thing of y", x.count(2), 0);
        due.is("x has its own settings", x.count(24), 5);
        due.is("a later one is new", new DepositProofs().count(24), 5);
    }

    private static void tenantsCome() {
        due.about("promise 2");
        DepositProofs x = new DepositProofs();
        due.is("tenant(-1, 0)", x.tenant(-1, 0), Due.INVALID);
        due.is("tenant(10000, 0)", x.tenant(10000, 0), Due.INVALID);
        due.is("tenant(0, -1)", x.tenant(0, -1), Due.INVALID);
        due.is("tenant(0, 241)", x.tenant(0, 241), Due.INVALID);
        for (int far : Due.FAR) {
            due.is("tenant(far, 0)", x.tenant(far, 0), Due.INVALID);
            due.is("tenant(0, far)", x.tenant(0, far), Due.INVALID);
        }
        due.is("count(0) after errors", x.count(0), 0);
        due.is("count(11) after errors", x.count(11), 0);
        due.is("tenant(0, 0)", x.tenant(0, 0), 0);
        due.is("tenant(9999, 240)", x.tenant(9999, 240), 1);
        due.is("tenant(9999, 240)", x.tenant(9999, 240), 2);
        due.is("go(2, 240)", x.go(2, 240), 0);
        due.is("one who has gone keeps the number", x.tenant(7, 8), 3);
        due.is("tenant(1, 1)", x.tenant(1, 1), 4);
        due.is("tenant(2, 2)", x.tenant(2, 2), 5);
        due.is("a seventh", x.tenant(3, 3), Due.LIMIT);
        due.is("a wrong seventh", x.tenant(10000, 3), Due.INVALID);
        due.is("another wrong seventh", x.tenant(3, 241), Due.INVALID);
        due.is("count(0)", x.count(0), 6);
        due.is("deposit of 1", x.tenantOf(1, 0), 9999);
        due.is("coming of 1", x.tenantOf(1, 1), 240);
        due.is("deposit of 3", x.tenantOf(3, 0), 7);
        due.is("coming of 3", x.tenantOf(3, 1), 8);
    }

    private static void tenantsGo() {
        due.about("promise 3");
        DepositProofs x = new DepositProofs();
        due.is("go without tenants", x.go(0, 5), Due.INVALID);
        x.tenant(100, 10);
        x.tenant(100, 240);
        x.tenant(100, 0);
        due.is("go(-1, 20)", x.go(-1, 20), Due.INVALID);
        due.is("go(3, 20)", x.go(3, 20), Due.INVALID);
        due.is("go(0, -1)", x.go(0, -1), Due.INVALID);
        due.is("go(0, 241)", x.go(0, 241), Due.INVALID);
        for (int far : Due.FAR) {
            due.is("go(far, 5)", x.go(far, 5), Due.INVALID);
            due.is("go(0, far)", x.go(0, far), Due.INVALID);
        }
        due.is("go(0, 9)", x.go(0, 9), Due.IMPOSSIBLE);
        due.is("still there", x.tenantOf(0, 2), Due.NONE);
        due.is("go(0, 10)", x.go(0, 10), 0);
        due.is("go(0, 11) again", x.go(0, 11), Due.IMPOSSIBLE);
        due.is("go(0, 241) again", x.go(0, 241), Due.INVALID);
        due.is("it stays", x.tenantOf(0, 2), 10);
        due.is("go(1, 239)", x.go(1, 239), Due.IMPOSSIBLE);
        due.is("go(1, 240)", x.go(1, 240), 0);
        due.is("go(2, 240)", x.go(2, 240), 240);
        due.is("count(1)", x.count(1), 3);
        x.tenant(1, 7);
        due.is("go(3, 30)", x.go(3, 30), 23);
        x.tenant(1, 0);
        due.is("go(4, 0)", x.go(4, 0), 0);
        due.is("gone in month 0", x.tenantOf(4, 2), 0);
        due.is("go(4, 0) again", x.go(4, 0), Due.IMPOSSIBLE);
    }

    private static void thingsAreAdded() {
        due.about("promise 4");
        DepositProofs x = new DepositProofs();
        due.is("of no tenant", x.thing(1, 1, 0, 0, 0), Due.INVALID);
        x.tenant(5, 5);
        x.tenant(6, 6);
        due.is("value 0", x.thing(0, 5, 0, 5, 5), Due.INVALID);
        due.is("value 1000", x.thing(1000, 5, 0, 5, 5), Due.INVALID);
        due.is("life 0", x.thing(5, 0, 0, 5, 5), Due.INVALID);
        due.is("life 121", x.thing(5, 121, 0, 5, 5), Due.INVALID);
        due.is("tenant -2", x.thing(5, 5, -2, 5, 5), Due.INVALID);
        due.is("tenant 2", x.thing(5, 5, 2, 5, 5), Due.INVALID);
        due.is("condition -1", x.thing(5, 5, 0, -1, 5), Due.INVALID);
        due.is("condition 11", x.thing(5, 5, 0, 11, 5), Due.INVALID);
        due.is("month -1", x.thing(5, 5, 0, 5, -1), Due.INVALID);
        due.is("month 241", x.thing(5, 5, 0, 5, 241), Due.INVALID);
        for (int far : Due.FAR) {
            due.is("value far", x.thing(far, 5, 0, 5, 5), Due.INVALID);
            due.is("life far", x.thing(5, far, 0, 5, 5), Due.INVALID);
            due.is("tenant far", x.thing(5, 5, far, 5, 5), Due.INVALID);
            due.is("condition far", x.thing(5, 5, 0, far, 5), Due.INVALID);
            due.is("month far", x.thing(5, 5, 0, 5, far), Due.INVALID);
        }
        due.is("count(2) after errors", x.count(2), 0);
        due.is("count(11) after errors", x.count(11), 2);
        due.is("the least", x.thing(1, 1, -1, 0, 0), 0);
        due.is("the most", x.thing(999, 120, 1, 10, 240), 1);
        int[] want = {999, 120, 1, 10, 240, Due.NONE, Due.NONE, Due.NONE, Due.NONE, Due.NONE,
            0, 0, 0, 50, 0};
        for (int what = 0; what < want.length; what++) {
            due.is("thingOf(1, " + what + ")", x.thingOf(1, what), want[what]);
        }
        for (int thing = 2; thing < 12; thing++) {
            due.is("thing", x.thing(7, 8, 0, 9, 10), thing);
        }
        due.is("a thirteenth", x.thing(7, 8, 0, 9, 10), Due.LIMIT);
        due.is("a wrong thirteenth", x.thing(7, 8, 2, 9, 10), Due.INVALID);
        due.is("another wrong thirteenth", x.thing(7, 8, 0, 9, 241), Due.INVALID);
        due.is("count(2)", x.count(2), 12);
    }

    private static void thingsAreLookedAt() {
        due.about("promise 5");
        DepositProofs x = new DepositProofs();
        due.is("look without things", x.look(0, 0, 5), Due.INVALID);
        x.thing(500, 60, -1, 10, 12);
        x.thing(70, 10, -1, 9, 240);
        x.thing(70, 10, -1, 9, 0);
        due.is("thing -1", x.look(-1, 5, 20), Due.INVALID);
        due.is("thing 3", x.look(3, 5, 20), Due.INVALID);
        due.is("condition -1", x.look(0, -1, 20), Due.INVALID);
        due.is("condition 11", x.look(0, 11, 20), Due.INVALID);
        due.is("month -1", x.look(0, 5, -1), Due.INVALID);
        due.is("month 241", x.look(0, 5, 241), Due.INVALID);
        for (int far : Due.FAR) {
            due.is("thing far", x.look(far, 5, 20), Due.INVALID);
            due.is("condition far", x.look(0, far, 20), Due.INVALID);
            due.is("month far", x.look(0, 5, far), Due.INVALID);
        }
        due.is("earlier than the first", x.look(0, 5, 11), Due.IMPOSSIBLE);
        due.is("count(3) after errors", x.count(3), 0);
        due.is("look(0, 4, 36)", x.look(0, 4, 36), 100);
        due.is("again", x.look(0, 4, 37), Due.IMPOSSIBLE);
        due.is("again, wrongly", x.look(0, 11, 37), Due.INVALID);
        int[] want = {4, 36, 24, 6, 100};
        for (int what = 5; what < 10; what++) {
            due.is("thingOf(0, " + what + ")", x.thingOf(0, what), want[what - 5]);
        }
        due.is("month 239", x.look(1, 3, 239), Due.IMPOSSIBLE);
        due.is("in the same month", x.look(1, 3, 240), 42);
        due.is("its age", x.thingOf(1, 7), 0);
        due.is("its fair condition", x.thingOf(1, 8), 9);
        due.is("in month 0", x.look(2, 10, 0), 0);
        due.is("looked at in month 0", x.thingOf(2, 6), 0);
        due.is("again", x.look(2, 10, 0), Due.IMPOSSIBLE);
    }

    private static void wearByAge() {
        due.about("promise 5, wear");
        // value, life, first condition, last condition, age, fair condition, loss
        int[][] rows = {
            {999, 120, 10, 0, 1, 9, 899}, {999, 120, 10, 0, 0, 10, 999}, {999, 120, 10, 0, 119, 0, 0},
            {999, 120, 10, 0, 120, 0, 0}, {999, 1, 10, 0, 240, 0, 0}, {100, 10, 10, 9, 1, 9, 0},
            {100, 10, 10, 8, 1, 9, 10}, {100, 10, 10, 10, 1, 9, 0}, {7, 3, 7, 1, 1, 4, 2},
            {1, 100, 10, 1, 1, 9, 0}, {19, 100, 10, 4, 1, 9, 9}, {500, 60, 0, 0, 0, 0, 0},
            {500, 60, 9, 10, 0, 9, 0}, {500, 7, 10, 1, 6, 1, 0}, {500, 7, 10, 0, 6, 1, 50},
            {500, 7, 10, 0, 7, 0, 0}, {500, 7, 10, 0, 8, 0, 0}, {999, 1, 10, 0, 0, 10, 999},
        };
        for (int[] row : rows) {
            DepositProofs x = new DepositProofs();
            x.thing(row[0], row[1], -1, row[2], 0);
            due.is("look(0, " + row[3] + ", " + row[4] + ")", x.look(0, row[3], row[4]), row[6]);
            due.is("fair condition", x.thingOf(0, 8), row[5]);
            due.is("loss", x.thingOf(0, 9), row[6]);
            due.is("age", x.thingOf(0, 7), row[4]);
            due.is("last condition", x.thingOf(0, 5), row[3]);
        }
    }
}
