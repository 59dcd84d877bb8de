/** Promises 11 to 20: each sentence that names a boundary case has a test of its own here. */
public final class EdgesOfAnswersTest {
    private static final Due due = new Due();

    public static void main(String[] args) {
        tenantOfTenant();
        tenantOfWhat();
        tenantOfDepositAndComing();
        tenantOfGoing();
        tenantOfSharesOfAllThings();
        tenantOfKeptPaidBackOwed();
        tenantOfThingsWithAShare();
        tenantOfDisputes();
        thingOfThing();
        thingOfWhat();
        thingOfFirstInventory();
        thingOfWhoseItIs();
        thingOfLastInventory();
        thingOfProofs();
        thingOfDisputesAndKept();
        shareOfArguments();
        shareOfBefore();
        shareOfShare();
        shareOfMonths();
        orderAtOrder();
        orderAtPlace();
        orderAtNotSoMany();
        orderAtByKept();
        orderAtByLosses();
        orderAtByValues();
        countWhat();
        countTenants();
        countThings();
        countLossesAndKept();
        countDeposits();
        countDisputes();
        countNotProved();
        countHistoryAndText();
        countSettings();
        wouldProveArguments();
        wouldProveHasIt();
        wouldProveMore();
        bestProofWhat();
        bestProofOfSeveral();
        bestProofNone();
        wouldSaveTenant();
        wouldSaveLess();
        wouldSaveMore();
        keptBitsPart();
        keptBitsNone();
        careBitsMean();
        careBitsNone();
        due.end();
    }

    /** Two tenants for all the time; thing 0 of tenant 0 and thing 1, shared, with losses of 81. */
    private static void flat(DepositProofs x) {
        x.tenant(300, 0);
        x.tenant(200, 0);
        x.thing(90, 100, 0, 10, 0);
        x.thing(90, 100, -1, 10, 0);
        x.look(0, 0, 5);
        x.look(1, 0, 5);
    }

    private static DepositProofs flat() {
        return Due.after(EdgesOfAnswersTest::flat);
    }

    /** One tenant from month 0 with own things of these losses. */
    private static DepositProofs own(int deposit, int... losses) {
        DepositProofs x = Due.after(y -> y.tenant(deposit, 0));
        for (int thing = 0; thing < losses.length; thing++) {
            x.thing(Math.max(1, losses[thing]), 10, 0, 10, 0);
            x.look(thing, losses[thing] == 0 ? 10 : 0, 0);
        }
        return x;
    }

    private static void tenantOfTenant() {
        due.about("11: number of the tenant");
        due.range("tenant", 0, 1, tenant -> flat().tenantOf(tenant, 0));
        due.is("without tenants", new DepositProofs().tenantOf(0, 0), Due.INVALID);
    }

    private static void tenantOfWhat() {
        due.about("11: what: 0 to 8");
        due.range("what", 0, 8, what -> {
            DepositProofs x = flat();
            x.go(0, 5);
            return x.tenantOf(0, what);
        });
    }

    private static void tenantOfDepositAndComing() {
        due.about("11: 0: the deposit; 1: the month of coming");
        DepositProofs x = Due.after(y -> y.tenant(0, 240));
        x.tenant(9999, 0);
        due.is("deposit 0", x.tenantOf(0, 0), 0);
        due.is("month 240", x.tenantOf(0, 1), 240);
        due.is("deposit 9999", x.tenantOf(1, 0), 9999);
        due.is("month 0", x.tenantOf(1, 1), 0);
    }

    private static void tenantOfGoing() {
        due.about("11: NOT_FOUND for 2 if the tenant has not gone");
        DepositProofs x = flat();
        due.is("not gone", x.tenantOf(0, 2), Due.NONE);
        x.go(0, 0);
        due.is("gone in month 0", x.tenantOf(0, 2), 0);
        due.is("the other one", x.tenantOf(1, 2), Due.NONE);
        x.undo();
        due.is("not gone after an undo", x.tenantOf(0, 2), Due.NONE);
        due.is("what 3 is found", x.tenantOf(0, 3), 122);
    }

    private static void tenantOfSharesOfAllThings() {
        due.about("11: 3: what the shares of all things come to");
        due.is("no things", own(5).tenantOf(0, 3), 0);
        due.is("no loss", own(5, 0).tenantOf(0, 3), 0);
        due.is("twelve things", own(5, 1, 2, 3, 4, 5, 6, 7, 8, 9, 10, 11, 999).tenantOf(0, 3), 1065);
        int[] most = {999, 999, 999, 999, 999, 999, 999, 999, 999, 999, 999, 999};
        due.is("the most", own(5, most).tenantOf(0, 3), 11988);
        due.is("an own and a shared one, lower", flat().tenantOf(0, 3), 81 + 41);
        due.is("a shared one, higher", flat().tenantOf(1, 3), 40);
    }

    private static void tenantOfKeptPaidBackOwed() {
        due.about("11: 4: what is kept of the deposit; 5: paid back; 6: owed above it");
        int[][] rows = {{10, 0, 0, 10, 0}, {10, 9, 9, 1, 0}, {10, 10, 10, 0, 0}, {10, 11, 10, 0, 1},
            {0, 0, 0, 0, 0}, {0, 1, 0, 0, 1}};
        for (int[] row : rows) {
            DepositProofs x = own(row[0], row[1]);
            for (int what = 4; what <= 6; what++) {
                due.is("deposit " + row[0] + ", loss " + row[1] + ", what " + what,
                        x.tenantOf(0, what), row[what - 2]);
            }
        }
    }

    private static void tenantOfThingsWithAShare() {
        due.about("11: 7: the things of which the tenant has a share, as a set");
        due.is("none", own(5).tenantOf(0, 7), 0);
        due.is("all twelve", own(5, new int[12]).tenantOf(0, 7), 4095);
        DepositProofs x = flat();
        due.is("both", x.tenantOf(0, 7), 3);
        due.is("the shared one", x.tenantOf(1, 7), 2);
        x.go(0, 0);
        due.is("without months", x.tenantOf(0, 7), 1);
    }

    private static void tenantOfDisputes() {
        due.about("11: 8: those that the tenant disputes, as a set");
        DepositProofs x = own(5, 1, 1, 1, 1, 1, 1, 1, 1, 1, 1, 1, 1);
        due.is("none", x.tenantOf(0, 8), 0);
        for (int thing = 0; thing < 12; thing++) {
            x.dispute(thing, 0);
        }
        due.is("all twelve", x.tenantOf(0, 8), 4095);
        x.agree(11, 0);
        due.is("all but the last", x.tenantOf(0, 8), 2047);
        x = flat();
        x.dispute(1, 1);
        due.is("that of another one", x.tenantOf(0, 8), 0);
    }

    private static void thingOfThing() {
        due.about("12: number of the thing");
        due.range("thing", 0, 1, thing -> flat().thingOf(thing, 0));
        due.is("without things", new DepositProofs().thingOf(0, 0), Due.INVALID);
    }

    private static void thingOfWhat() {
        due.about("12: what: 0 to 14");
        due.range("what", 0, 14, what -> flat().thingOf(0, what));
    }

    private static void thingOfFirstInventory() {
        due.about("12: 0: its value; 1: its life; 3: its first condition; 4: the month of it");
        DepositProofs x = new DepositProofs();
        x.thing(1, 1, -1, 0, 0);
        x.thing(999, 120, -1, 10, 240);
        int[][] want = {{1, 1, Due.NONE, 0, 0}, {999, 120, Due.NONE, 10, 240}};
        for (int thing = 0; thing < 2; thing++) {
            for (int what = 0; what <= 4; what++) {
                due.is("thingOf(" + thing + ", " + what + ")", x.thingOf(thing, what), want[thing][what]);
            }
        }
    }

    private static void thingOfWhoseItIs() {
        due.about("12: NOT_FOUND for 2 if it is shared");
        DepositProofs x = flat();
        x.thing(5, 5, 1, 5, 5);
        due.is("of tenant 0", x.thingOf(0, 2), 0);
        due.is("shared", x.thingOf(1, 2), Due.NONE);
        due.is("of tenant 1", x.thingOf(2, 2), 1);
    }

    private static void thingOfLastInventory() {
        due.about("12: NOT_FOUND for 5 to 9 if it was not looked at again");
        DepositProofs x = new DepositProofs();
        x.thing(50, 5, -1, 5, 0);
        for (int what = 0; what <= 14; what++) {
            boolean none = what == 2 || what >= 5 && what <= 9;
            due.is("thingOf(0, " + what + ") is not found", x.thingOf(0, what) == Due.NONE ? 1 : 0,
                    none ? 1 : 0);
        }
        x.look(0, 0, 0);
        int[] want = {0, 0, 0, 5, 25};
        for (int what = 5; what <= 9; what++) {
            due.is("thingOf(0, " + what + ")", x.thingOf(0, what), want[what - 5]);
        }
        x.undo();
        due.is("after an undo", x.thingOf(0, 9), Due.NONE);
    }

    private static void thingOfProofs() {
        due.about("12: 10: its proofs, as a set; 11: their weight");
        DepositProofs x = flat();
        due.is("none", x.thingOf(1, 10), 0);
        due.is("no weight", x.thingOf(1, 11), 0);
        for (int kind = 3; kind >= 0; kind--) {
            x.proof(1, kind);
        }
        due.is("all", x.thingOf(1, 10), 15);
        due.is("their weight", x.thingOf(1, 11), 10);
        x.set(2, 20);
        due.is("their weight by another setting", x.thingOf(1, 11), 28);
        due.is("none of the other thing", x.thingOf(0, 10), 0);
    }

    private static void thingOfDisputesAndKept() {
        due.about("12: 12: the tenants who dispute it; 13: what was decided; 14: what is kept");
        DepositProofs x = flat();
        int[] before = {0, 50, 81};
        int[] after = {3, 100, 0};
        for (int what = 12; what <= 14; what++) {
            due.is("before disputes, " + what, x.thingOf(1, what), before[what - 12]);
        }
        x.dispute(1, 1);
        x.dispute(1, 0);
        x.decide(1, 100);
        for (int what = 12; what <= 14; what++) {
            due.is("with disputes, " + what, x.thingOf(1, what), after[what - 12]);
        }
        x = new DepositProofs();
        x.thing(50, 5, -1, 5, 0);
        due.is("kept before the last inventory", x.thingOf(0, 14), 0);
        x.look(0, 0, 0);
        due.is("kept of nobody", x.thingOf(0, 14), 0);
    }

    private static void shareOfArguments() {
        due.about("13: numbers of the thing and of the tenant; what: 0 or 1");
        due.range("thing", 0, 1, thing -> flat().shareOf(thing, 0, 0));
        due.range("tenant", 0, 1, tenant -> flat().shareOf(0, tenant, 0));
        due.range("what", 0, 1, what -> flat().shareOf(0, 0, what));
        due.is("without things", own(5).shareOf(0, 0, 0), Due.INVALID);
    }

    private static void shareOfBefore() {
        due.about("13: 0 before the last inventory");
        DepositProofs x = Due.after(y -> y.tenant(5, 0));
        x.thing(50, 100, -1, 10, 0);
        x.thing(50, 100, 0, 10, 0);
        x.go(0, 100);
        for (int thing = 0; thing < 2; thing++) {
            due.is("share", x.shareOf(thing, 0, 0), 0);
            due.is("months", x.shareOf(thing, 0, 1), 0);
            x.look(thing, 0, 50);
            due.is("share after it", x.shareOf(thing, 0, 0), 25);
            due.is("months after it", x.shareOf(thing, 0, 1), 50);
        }
    }

    private static void shareOfShare() {
        due.about("13: 0: the share");
        due.is("an own thing", flat().shareOf(0, 0, 0), 81);
        due.is("another one's thing", flat().shareOf(0, 1, 0), 0);
        due.is("a half, and the rest", flat().shareOf(1, 0, 0), 41);
        due.is("a half", flat().shareOf(1, 1, 0), 40);
        DepositProofs x = flat();
        x.dispute(1, 1);
        due.is("nothing is kept", x.shareOf(1, 0, 0), 0);
        x.set(4, 0);
        due.is("half of 40", x.shareOf(1, 0, 0), 20);
        x.go(1, 0);
        due.is("all of 40", x.shareOf(1, 0, 0), 40);
        due.is("without months", x.shareOf(1, 1, 0), 0);
        x.go(0, 0);
        due.is("borne by nobody", x.shareOf(1, 0, 0), 0);
        due.is("an own thing all the same", x.shareOf(0, 0, 0), 81);
    }

    private static void shareOfMonths() {
        due.about("13: 1: the months");
        DepositProofs x = flat();
        due.is("all of 5", x.shareOf(1, 0, 1), 5);
        due.is("for an own thing", x.shareOf(0, 0, 1), 5);
        x.go(1, 4);
        due.is("4", x.shareOf(1, 1, 1), 4);
        x.undo();
        x.go(1, 0);
        due.is("none", x.shareOf(1, 1, 1), 0);
        x.tenant(5, 5);
        due.is("one who came too late", x.shareOf(1, 2, 1), 0);
        x.tenant(5, 4);
        due.is("one month", x.shareOf(1, 3, 1), 1);
    }

    private static void orderAtOrder() {
        due.about("14: order: 0 to 2");
        due.range("order", 0, 2, order -> flat().orderAt(order, 0));
    }

    private static void orderAtPlace() {
        due.about("14: INVALID_ARGUMENT if place is negative");
        for (int order = 0; order < 3; order++) {
            due.is("place 0", flat().orderAt(order, 0), 0);
            due.is("place -1", flat().orderAt(order, -1), Due.INVALID);
            due.is("the lowest place", flat().orderAt(order, Integer.MIN_VALUE), Due.INVALID);
            due.is("place -1 of no things", new DepositProofs().orderAt(order, -1), Due.INVALID);
        }
    }

    private static void orderAtNotSoMany() {
        due.about("14: NOT_FOUND if there are not so many");
        for (int order = 0; order < 3; order++) {
            due.is("none of none", new DepositProofs().orderAt(order, 0), Due.NONE);
            due.is("the second of two", flat().orderAt(order, 1), 1);
            due.is("a third of two", flat().orderAt(order, 2), Due.NONE);
            due.is("the highest place", flat().orderAt(order, Integer.MAX_VALUE), Due.NONE);
            DepositProofs x = own(5, new int[12]);
            due.is("the twelfth", x.orderAt(order, 11), 11);
            due.is("a thirteenth", x.orderAt(order, 12), Due.NONE);
        }
    }

    private static void order(DepositProofs x, int order, int... want) {
        for (int place = 0; place < want.length; place++) {
            due.is("orderAt(" + order + ", " + place + ")", x.orderAt(order, place), want[place]);
        }
    }

    private static void orderAtByKept() {
        due.about("14: 0: by what is kept for them, more first, then the lower number");
        order(own(5, 3, 5, 4, 5, 0), 0, 1, 3, 2, 0, 4);
        DepositProofs x = own(5, 3, 5, 4, 5, 0);
        x.dispute(1, 0);
        order(x, 0, 3, 2, 0, 1, 4);
        x = flat();
        x.go(0, 0);
        x.go(1, 0);
        x.thing(5, 5, 0, 5, 5);
        order(x, 0, 0, 1, 2);
        x.look(2, 0, 5);
        // The shared thing has the greater loss, but nobody bears it.
        order(x, 0, 0, 2, 1);
    }

    private static void orderAtByLosses() {
        due.about("14: 1: by losses, greater ones first (0 if not looked at again)");
        DepositProofs x = own(5, 3, 5, 0, 5);
        x.thing(999, 10, 0, 10, 0);
        order(x, 1, 1, 3, 0, 2, 4);
        x.dispute(1, 0);
        order(x, 1, 1, 3, 0, 2, 4);
        x.look(4, 9, 0);
        order(x, 1, 4, 1, 3, 0, 2);
        DepositProofs y = new DepositProofs();
        y.thing(999, 10, -1, 10, 0);
        y.thing(5, 10, -1, 10, 0);
        y.look(1, 10, 0);
        order(y, 1, 0, 1);
    }

    private static void orderAtByValues() {
        due.about("14: 2: by values, lesser ones first, of several the lower number first");
        DepositProofs x = new DepositProofs();
        for (int value : new int[] {5, 999, 1, 5, 1, 998}) {
            x.thing(value, 5, -1, 5, 5);
        }
        order(x, 2, 2, 4, 0, 3, 5, 1);
    }

    private static void countWhat() {
        due.about("15: INVALID_ARGUMENT if what is out of range");
        for (int what = -40; what <= 60; what++) {
            boolean valid = what >= 0 && what <= 12 || what >= 20 && what <= 24;
            due.is("count(" + what + ") is valid", new DepositProofs().count(what) >= 0 ? 1 : 0,
                    valid ? 1 : 0);
        }
        for (int far : new int[] {Integer.MIN_VALUE, Integer.MAX_VALUE, 256, 276, 65536,
            Integer.MIN_VALUE + 20, -236}) {
            due.is("count(" + far + ")", new DepositProofs().count(far), Due.INVALID);
        }
    }

    private static void countTenants() {
        due.about("15: 0: tenants; 1: tenants who have gone");
        DepositProofs x = new DepositProofs();
        for (int tenant = 0; tenant <= 6; tenant++) {
            due.is("tenants", x.count(0), tenant);
            x.tenant(5, 0);
        }
        for (int tenant = 0; tenant < 6; tenant++) {
            due.is("gone", x.count(1), tenant);
            x.go(tenant, 0);
        }
        due.is("all gone", x.count(1), 6);
        due.is("tenants still", x.count(0), 6);
    }

    private static void countThings() {
        due.about("15: 2: things; 3: things that were looked at again");
        DepositProofs x = new DepositProofs();
        for (int thing = 0; thing <= 12; thing++) {
            due.is("things", x.count(2), thing);
            x.thing(5, 5, -1, 5, 0);
        }
        for (int thing = 0; thing < 12; thing++) {
            due.is("looked at", x.count(3), thing);
            x.look(thing, 5, 0);
        }
        due.is("all", x.count(3), 12);
    }

    private static void countLossesAndKept() {
        due.about("15: 4: all losses together; 5: what is kept for all things together");
        DepositProofs x = flat();
        due.is("losses", x.count(4), 162);
        due.is("kept", x.count(5), 162);
        x.dispute(1, 1);
        due.is("losses, one disputed", x.count(4), 162);
        due.is("kept, one disputed", x.count(5), 81);
        x.thing(999, 10, -1, 10, 0);
        due.is("losses, one not looked at", x.count(4), 162);
        x.look(2, 0, 0);
        due.is("losses, one borne by nobody", x.count(4), 1161);
        due.is("kept, one borne by nobody", x.count(5), 81);
        int[] most = {999, 999, 999, 999, 999, 999, 999, 999, 999, 999, 999, 999};
        due.is("the most losses", own(5, most).count(4), 11988);
        due.is("the most kept", own(5, most).count(5), 11988);
    }

    private static void countDeposits() {
        due.about("15: 6: all deposits; 7: what is paid back of all; 8: owed above deposits by all");
        DepositProofs x = new DepositProofs();
        for (int tenant = 0; tenant < 6; tenant++) {
            x.tenant(9999, 0);
        }
        due.is("the most deposits", x.count(6), 59994);
        due.is("all is paid back", x.count(7), 59994);
        due.is("nothing is owed", x.count(8), 0);
        x = own(10, 11);
        x.tenant(20, 0);
        due.is("deposits", x.count(6), 30);
        due.is("one's deposit is paid back", x.count(7), 20);
        due.is("though another one owes", x.count(8), 1);
        x = own(0, 5);
        due.is("no deposits", x.count(6), 0);
        due.is("nothing to pay back", x.count(7), 0);
        due.is("all is owed", x.count(8), 5);
    }

    private static void countDisputes() {
        due.about("15: 9: disputes");
        DepositProofs x = flat();
        due.is("none", x.count(9), 0);
        x.dispute(1, 0);
        due.is("one", x.count(9), 1);
        x.dispute(1, 1);
        due.is("two of one thing", x.count(9), 2);
        x.dispute(0, 0);
        due.is("and one of another", x.count(9), 3);
        x.agree(1, 0);
        due.is("one less", x.count(9), 2);
    }

    private static void countNotProved() {
        due.about("15: 10: things that are disputed and not proved");
        DepositProofs x = flat();
        due.is("none is disputed", x.count(10), 0);
        x.dispute(1, 0);
        x.dispute(1, 1);
        due.is("one by two tenants", x.count(10), 1);
        x.proof(1, 1);
        x.set(4, 4);
        due.is("3 of 4", x.count(10), 1);
        x.set(4, 3);
        due.is("3 of 3", x.count(10), 0);
        x.dispute(0, 0);
        due.is("another one without proofs", x.count(10), 1);
        x.set(4, 0);
        due.is("nothing is needed", x.count(10), 0);
    }

    private static void countHistoryAndText() {
        due.about("15: 11: states in the history; 12: the length of the text");
        DepositProofs x = new DepositProofs();
        for (int i = 1; i <= 6; i++) {
            x.set(0, i);
            due.is("states", x.count(11), Math.min(4, i));
        }
        for (int i = 1; i <= 82; i++) {
            x.type('x');
            due.is("length", x.count(12), Math.min(80, i));
        }
        x.clearText();
        due.is("no length", x.count(12), 0);
    }

    private static void countSettings() {
        due.about("15: 20 to 24: the settings 0 to 4");
        int[] first = {2, 3, 2, 3, 5};
        for (int setting = 0; setting < 5; setting++) {
            DepositProofs x = new DepositProofs();
            due.is("at first", x.count(20 + setting), first[setting]);
            x.set(setting, 20);
            due.is("the most", x.count(20 + setting), 20);
            x.set(setting, 0);
            due.is("the least", x.count(20 + setting), 0);
        }
    }

    private static void wouldProveArguments() {
        due.about("16: number of the thing; kind: 0 to 3");
        due.range("thing", 0, 1, thing -> flat().wouldProve(thing, 0));
        due.range("kind", 0, 3, kind -> flat().wouldProve(0, kind));
        due.is("without things", new DepositProofs().wouldProve(0, 0), Due.INVALID);
    }

    private static void wouldProveHasIt() {
        due.about("16: 0 if it has this proof");
        for (int kind = 0; kind < 4; kind++) {
            DepositProofs x = flat();
            x.dispute(0, 0);
            x.set(kind, 5);
            due.is("without it", x.wouldProve(0, kind), 40);
            x.proof(0, kind);
            due.is("with it", x.wouldProve(0, kind), 0);
            // Twice its weight would be enough.
            x.set(4, 10);
            due.is("with it, and not proved", x.wouldProve(0, kind), 0);
        }
    }

    private static void wouldProveMore() {
        due.about("16: how much more would be kept");
        DepositProofs x = flat();
        due.is("nobody disputes it", x.wouldProve(1, 1), 0);
        x.dispute(1, 0);
        due.is("3 of 5", x.wouldProve(1, 1), 0);
        x.set(4, 3);
        due.is("3 of 3", x.wouldProve(1, 1), 40);
        due.is("2 of 3", x.wouldProve(1, 0), 0);
        x.decide(1, 0);
        due.is("nothing would be kept", x.wouldProve(1, 1), 0);
        x.decide(1, 100);
        due.is("all would be kept", x.wouldProve(1, 1), 81);
        x.set(4, 0);
        due.is("all is kept already", x.wouldProve(1, 1), 0);
        x.set(4, 3);
        x.go(0, 0);
        x.go(1, 0);
        due.is("borne by nobody", x.wouldProve(1, 1), 0);
        due.is("no proof is added", x.thingOf(1, 10), 0);
    }

    private static void bestProofWhat() {
        due.about("17: what: 0 to 2");
        due.range("what", 0, 2, what -> {
            DepositProofs x = flat();
            x.set(4, 3);
            x.dispute(1, 1);
            return x.bestProof(what);
        });
    }

    private static void best(DepositProofs x, int thing, int kind, int more) {
        due.is("thing", x.bestProof(0), thing);
        due.is("kind", x.bestProof(1), kind);
        due.is("how much more", x.bestProof(2), more);
    }

    private static void bestProofOfSeveral() {
        due.about("17: of several for the thing with the lowest number, then of the lowest kind");
        DepositProofs x = own(5, 10, 20, 20, 19);
        for (int thing = 0; thing < 4; thing++) {
            x.dispute(thing, 0);
        }
        x.set(4, 3);
        best(x, 1, 1, 10);
        x.decide(3, 100);
        best(x, 3, 1, 19);
        x.agree(3, 0);
        x.set(4, 2);
        best(x, 1, 0, 10);
        x.proof(1, 0);
        best(x, 2, 0, 10);
        x.set(4, 6);
        // Thing 1 has 2 of 6 and no single proof is enough for any.
        best(x, Due.NONE, Due.NONE, Due.NONE);
        x.set(3, 6);
        best(x, 1, 3, 10);
        x.set(2, 6);
        best(x, 1, 2, 10);
        // A kind that is lower than that of a thing with a lower number counts for nothing.
        x = own(5, 10, 10);
        int[] settings = {3, 0, 0, 2, 5};
        for (int what = 0; what < 5; what++) {
            x.set(what, settings[what]);
        }
        x.proof(0, 0);
        x.proof(1, 3);
        x.dispute(0, 0);
        x.dispute(1, 0);
        best(x, 0, 3, 5);
        x = own(5, 2, 1, 1, 1, 1, 1, 1, 1, 1, 1, 1, 4);
        x.set(4, 3);
        x.dispute(0, 0);
        best(x, 0, 1, 1);
        x.dispute(11, 0);
        best(x, 11, 1, 2);
    }

    private static void bestProofNone() {
        due.about("17: NOT_FOUND if by no proof more would be kept");
        best(new DepositProofs(), Due.NONE, Due.NONE, Due.NONE);
        DepositProofs x = flat();
        x.set(4, 3);
        best(x, Due.NONE, Due.NONE, Due.NONE);
        x.dispute(0, 0);
        best(x, 0, 1, 40);
        x.decide(0, 0);
        best(x, Due.NONE, Due.NONE, Due.NONE);
        x.decide(0, 1);
        best(x, Due.NONE, Due.NONE, Due.NONE);
        x.decide(0, 2);
        best(x, 0, 1, 1);
        x.set(4, 4);
        best(x, Due.NONE, Due.NONE, Due.NONE);
        x.set(4, 0);
        best(x, Due.NONE, Due.NONE, Due.NONE);
    }

    private static void wouldSaveTenant() {
        due.about("18: number of the tenant");
        due.range("tenant", 0, 1, tenant -> flat().wouldSave(tenant));
        due.is("without tenants", new DepositProofs().wouldSave(0), Due.INVALID);
    }

    private static void wouldSaveLess() {
        due.about("18: how much less the tenant would bear by disputing all that can be disputed");
        due.is("no things", own(5).wouldSave(0), 0);
        due.is("no loss", own(5, 0).wouldSave(0), 0);
        due.is("twelve things", own(5, 1, 2, 3, 4, 5, 6, 7, 8, 9, 10, 11, 999).wouldSave(0), 1065);
        due.is("an own and a shared one", flat().wouldSave(0), 122);
        due.is("a shared one", flat().wouldSave(1), 40);
        DepositProofs x = flat();
        x.dispute(1, 1);
        due.is("the shared one is disputed by the other", x.wouldSave(0), 81);
        due.is("all is disputed already", x.wouldSave(1), 0);
        x.set(4, 0);
        due.is("81 less 40", x.wouldSave(0), 41);
        due.is("no dispute is added", x.count(9), 1);
        due.is("nor a state", x.count(11), 4);
        x.decide(1, 100);
        x.go(0, 0);
        due.is("without months", x.wouldSave(0), 41);
        x.agree(1, 1);
        due.is("all would be kept", x.wouldSave(1), 0);
    }

    private static void wouldSaveMore() {
        due.about("18: 0 if it would be more (by rounding)");
        DepositProofs x = new DepositProofs();
        for (int tenant = 0; tenant < 3; tenant++) {
            x.tenant(100, 0);
        }
        x.thing(16, 4, -1, 10, 0);
        x.look(0, 0, 2);
        x.go(1, 1);
        x.set(4, 0);
        x.dispute(0, 0);
        x.decide(0, 90);
        due.is("borne of 7", x.tenantOf(1, 3), 2);
        x.agree(0, 0);
        due.is("borne of 8", x.tenantOf(1, 3), 1);
        due.is("1 would be 2", x.wouldSave(1), 0);
        x.thing(1, 10, 1, 10, 0);
        x.look(1, 0, 0);
        due.is("2 would be 2", x.wouldSave(1), 0);
        x.thing(2, 10, 1, 10, 0);
        x.look(2, 0, 0);
        due.is("4 would be 3", x.wouldSave(1), 1);
    }

    private static void keptBitsPart() {
        due.about("19: what is kept of all deposits, as a float, divided by all deposits, as a float");
        due.is("0 of 5", own(5, 0).keptBits(), Float.floatToIntBits(0f));
        due.is("1 of 1", own(1, 1).keptBits(), Float.floatToIntBits(1f));
        due.is("no more than the deposit", own(1, 999).keptBits(), Float.floatToIntBits(1f));
        due.is("1 of 9999", own(9999, 1).keptBits(), Float.floatToIntBits(1f / 9999f));
        due.is("998 of 999", own(999, 998).keptBits(), Float.floatToIntBits(998f / 999f));
        due.is("1 of 3", own(3, 1).keptBits(), Float.floatToIntBits(1f / 3f));
        DepositProofs x = own(10, 50);
        x.tenant(90, 0);
        due.is("one deposit does not go for another", x.keptBits(), Float.floatToIntBits(0.1f));
        x = own(9999, 1);
        for (int tenant = 1; tenant < 6; tenant++) {
            x.tenant(9999, 0);
        }
        due.is("1 of 59994", x.keptBits(), Float.floatToIntBits(1f / 59994f));
        due.is("80 of 500", own(500, 80).keptBits(), 1042536202);
    }

    private static void keptBitsNone() {
        due.about("19: NOT_FOUND if all deposits are 0");
        due.is("no tenants", new DepositProofs().keptBits(), Due.NONE);
        DepositProofs x = own(0, 5);
        due.is("a deposit of 0", x.keptBits(), Due.NONE);
        x.tenant(0, 0);
        due.is("two of 0", x.keptBits(), Due.NONE);
        x.tenant(1, 0);
        due.is("one of 1", x.keptBits(), 0);
    }

    private static void careBitsMean() {
        due.about("20: the last condition less the fair one (it can be below 0), a mean as a float");
        // Fair condition 5 each time; last conditions; their sum less the fair ones.
        int[][] rows = {{5}, {4}, {6}, {0}, {10}, {4, 6}, {4, 5}, {5, 5, 4}, {0, 0, 10}, {4, 4, 4, 5},
            {0, 0, 0, 0, 0, 0, 0, 0, 0, 0, 0, 0}, {10, 10, 10, 10, 10, 10, 10, 10, 10, 10, 10, 10},
            {5, 5, 5, 5, 5, 5, 5, 5, 5, 5, 5, 6}};
        for (int[] row : rows) {
            DepositProofs x = new DepositProofs();
            int sum = 0;
            for (int thing = 0; thing < row.length; thing++) {
                x.thing(5, 20, -1, 10, 0);
                x.look(thing, row[thing], 10);
                sum += row[thing] - 5;
            }
            due.is(sum + " of " + row.length, x.careBits(),
                    Float.floatToIntBits((float) sum / (float) row.length));
        }
        for (int last = 0; last <= 10; last++) {
            for (int first = 0; first <= 10; first++) {
                DepositProofs x = new DepositProofs();
                x.thing(5, 20, -1, first, 7);
                x.look(0, last, 7);
                due.is(last + " less " + first, x.careBits(), Float.floatToIntBits(last - first));
            }
        }
        DepositProofs x = new DepositProofs();
        x.thing(5, 20, -1, 10, 0);
        x.thing(5, 20, -1, 10, 0);
        x.look(1, 2, 10);
        due.is("one is not looked at", x.careBits(), Float.floatToIntBits(-3f));
    }

    private static void careBitsNone() {
        due.about("20: NOT_FOUND if there are none");
        DepositProofs x = new DepositProofs();
        due.is("no things", x.careBits(), Due.NONE);
        x.thing(5, 5, -1, 5, 0);
        due.is("none looked at", x.careBits(), Due.NONE);
        x.look(0, 5, 0);
        due.is("one, a mean of 0", x.careBits(), 0);
        x.undo();
        due.is("none after an undo", x.careBits(), Due.NONE);
    }
}
