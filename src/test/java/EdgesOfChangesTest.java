/** Promises 1 to 10: each sentence that names a boundary case has a test of its own here. */
public final class EdgesOfChangesTest {
    private static final Due due = new Due();

    public static void main(String[] args) {
        newObject();
        tenantDeposit();
        tenantMonth();
        tenantNumber();
        tenantLimit();
        goTenant();
        goMonth();
        goMonthsLived();
        goHasGone();
        goCameLater();
        thingValue();
        thingLife();
        thingTenant();
        thingCondition();
        thingMonth();
        thingNumber();
        thingLimit();
        lookThing();
        lookCondition();
        lookMonth();
        lookLoss();
        lookAgain();
        lookTooEarly();
        proofThing();
        proofKind();
        proofWeight();
        proofAgain();
        disputeThing();
        disputeTenant();
        disputeKept();
        disputeAlready();
        disputeNoLoss();
        disputeNoShare();
        agreeThing();
        agreeTenant();
        agreeKept();
        agreeNotDisputed();
        decideThing();
        decideHundredths();
        decideKept();
        decideNobody();
        setWhat();
        setValue();
        setBefore();
        due.end();
    }

    /** Two tenants for all the time; thing 0 of tenant 0 and thing 1, shared, with losses of 81. */
    private static void flat(DepositProofs x) {
        x.tenant(300, 0);
        x.tenant(200, 0);
        x.thing(90, 100, 0, 10, 0);
        x.thing(90, 100, -1, 10, 0);
        x.look(0, 0, 5);
        x.look(1, 0, 5);
    }

    private static DepositProofs flat() {
        return Due.after(EdgesOfChangesTest::flat);
    }

    private static void newObject() {
        due.about("1: creates a flat without tenants and things");
        int[] zeros = {0, 1, 2, 3, 4, 5, 6, 7, 8, 9, 10, 11, 12};
        for (int what : zeros) {
            due.is("count(" + what + ")", new DepositProofs().count(what), 0);
        }
        DepositProofs x = new DepositProofs();
        due.is("no tenant", x.tenantOf(0, 0), Due.INVALID);
        due.is("no thing", x.thingOf(0, 0), Due.INVALID);
        due.is("no order", x.orderAt(0, 0), Due.NONE);
        due.is("no history", x.undo(), Due.IMPOSSIBLE);
        due.is("the first tenant", x.tenant(5, 5), 0);
        due.is("the first thing", x.thing(5, 5, -1, 5, 5), 0);
        due.is("nothing of it in another object", new DepositProofs().count(0), 0);
    }

    private static void tenantDeposit() {
        due.about("2: deposit: 0 to 9999");
        due.range("deposit", 0, 9999, deposit -> new DepositProofs().tenant(deposit, 0));
    }

    private static void tenantMonth() {
        due.about("2: month: 0 to 240");
        due.range("month", 0, 240, month -> new DepositProofs().tenant(0, month));
    }

    private static void tenantNumber() {
        due.about("2: returns the number of the tenant");
        DepositProofs x = new DepositProofs();
        due.is("the first", x.tenant(0, 0), 0);
        x.go(0, 0);
        due.is("the second, after the first has gone", x.tenant(9999, 240), 1);
        x.undo();
        due.is("the second, after an undo", x.tenant(7, 8), 1);
        x.tenant(10000, 0);
        due.is("the third, after an error", x.tenant(9, 9), 2);
        due.is("deposit of the second", x.tenantOf(1, 0), 7);
        due.is("month of the second", x.tenantOf(1, 1), 8);
    }

    private static void tenantLimit() {
        due.about("2: LIMIT_REACHED if there are 6");
        DepositProofs x = new DepositProofs();
        for (int tenant = 0; tenant < 6; tenant++) {
            due.is("tenant " + tenant, x.tenant(5, 5), tenant);
        }
        due.is("a seventh", x.tenant(5, 5), Due.LIMIT);
        due.is("an eighth", x.tenant(0, 0), Due.LIMIT);
    }

    private static void goTenant() {
        due.about("3: number of the tenant");
        due.range("tenant", 0, 1, tenant -> flat().go(tenant, 9));
        due.is("without tenants", new DepositProofs().go(0, 9), Due.INVALID);
    }

    private static void goMonth() {
        due.about("3: month: 0 to 240");
        due.range("month", 0, 240, month -> flat().go(0, month));
    }

    private static void goMonthsLived() {
        due.about("3: returns how many months the tenant has lived there");
        int[][] rows = {{0, 0, 0}, {0, 240, 240}, {240, 240, 0}, {5, 6, 1}, {100, 239, 139}};
        for (int[] row : rows) {
            DepositProofs x = Due.after(y -> y.tenant(5, row[0]));
            due.is("from " + row[0] + " to " + row[1], x.go(0, row[1]), row[2]);
        }
    }

    private static void goHasGone() {
        due.about("3: NOT_POSSIBLE if the tenant has gone");
        DepositProofs x = flat();
        x.go(0, 0);
        due.is("gone in month 0, in the same month", x.go(0, 0), Due.IMPOSSIBLE);
        due.is("gone in month 0, later", x.go(0, 240), Due.IMPOSSIBLE);
        due.is("the other tenant", x.go(1, 0), 0);
        due.is("month of going", x.tenantOf(0, 2), 0);
        x.undo();
        x.undo();
        due.is("after an undo", x.go(0, 7), 7);
    }

    private static void goCameLater() {
        due.about("3: NOT_POSSIBLE if the tenant came later than this month");
        DepositProofs x = Due.after(y -> y.tenant(5, 240));
        x.tenant(5, 1);
        due.is("a month ahead", x.go(0, 239), Due.IMPOSSIBLE);
        due.is("in the month of coming", x.go(0, 240), 0);
        due.is("month 0", x.go(1, 0), Due.IMPOSSIBLE);
        due.is("month 1", x.go(1, 1), 0);
    }

    private static void thingValue() {
        due.about("4: value: 1 to 999");
        due.range("value", 1, 999, value -> flat().thing(value, 5, -1, 5, 5));
    }

    private static void thingLife() {
        due.about("4: life: 1 to 120");
        due.range("life", 1, 120, life -> flat().thing(5, life, -1, 5, 5));
    }

    private static void thingTenant() {
        due.about("4: number of the tenant whose it is, or -1: it is shared");
        due.range("tenant", -1, 1, tenant -> flat().thing(5, 5, tenant, 5, 5));
        due.is("shared, without tenants", new DepositProofs().thing(5, 5, -1, 5, 5), 0);
        due.is("of 0, without tenants", new DepositProofs().thing(5, 5, 0, 5, 5), Due.INVALID);
        DepositProofs x = flat();
        x.go(1, 5);
        due.is("of one who has gone", x.thing(5, 5, 1, 5, 200), 2);
        due.is("whose it is", x.thingOf(2, 2), 1);
        due.is("shared", x.thingOf(1, 2), Due.NONE);
    }

    private static void thingCondition() {
        due.about("4: condition: 0 to 10");
        due.range("condition", 0, 10, condition -> flat().thing(5, 5, -1, condition, 5));
    }

    private static void thingMonth() {
        due.about("4: month: 0 to 240");
        due.range("month", 0, 240, month -> flat().thing(5, 5, 0, 5, month));
    }

    private static void thingNumber() {
        due.about("4: returns its number");
        DepositProofs x = new DepositProofs();
        due.is("the first", x.thing(1, 1, -1, 0, 0), 0);
        x.look(0, 0, 0);
        x.tenant(5, 0);
        due.is("the second", x.thing(999, 120, 0, 10, 0), 1);
        Due.type(x, "o1,0,0;p1,1;p1,2;d1,0;v1,0;");
        due.is("inventory, proofs, dispute, decision", x.play(), 5);
        x.undo();
        x.undo();
        due.is("the second, after undos", x.thing(7, 8, -1, 9, 10), 1);
        x.thing(0, 1, -1, 0, 0);
        due.is("the third, after an error", x.thing(5, 5, -1, 5, 5), 2);
        int[] want = {7, 8, Due.NONE, 9, 10, Due.NONE, Due.NONE, Due.NONE, Due.NONE, Due.NONE,
            0, 0, 0, 50, 0};
        for (int what = 0; what < want.length; what++) {
            due.is("the second is new, " + what, x.thingOf(1, what), want[what]);
        }
    }

    private static void thingLimit() {
        due.about("4: LIMIT_REACHED if there are 12");
        DepositProofs x = Due.after(y -> y.tenant(5, 5));
        for (int thing = 0; thing < 12; thing++) {
            due.is("thing " + thing, x.thing(5, 5, 0, 5, 5), thing);
        }
        due.is("a thirteenth", x.thing(5, 5, 0, 5, 5), Due.LIMIT);
        due.is("a shared one", x.thing(5, 5, -1, 5, 5), Due.LIMIT);
    }

    private static void lookThing() {
        due.about("5: number of the thing");
        due.range("thing", 0, 2, thing -> {
            DepositProofs x = new DepositProofs();
            for (int i = 0; i < 3; i++) {
                x.thing(5, 5, -1, 5, 5);
            }
            return x.look(thing, 5, 5);
        });
        due.is("without things", new DepositProofs().look(0, 5, 5), Due.INVALID);
    }

    private static void lookCondition() {
        due.about("5: condition: 0 to 10");
        due.range("condition", 0, 10,
                condition -> Due.after(x -> x.thing(5, 5, -1, 5, 5)).look(0, condition, 5));
    }

    private static void lookMonth() {
        due.about("5: month: 0 to 240");
        due.range("month", 0, 240, month -> Due.after(x -> x.thing(5, 5, -1, 5, 0)).look(0, 5, month));
    }

    private static void lookLoss() {
        due.about("5: returns its loss");
        // Value, life, first condition, last condition, age, loss.
        int[][] rows = {{999, 120, 10, 0, 0, 999}, {999, 120, 10, 10, 0, 0}, {1, 1, 0, 10, 0, 0},
            {500, 60, 10, 4, 24, 100}, {500, 60, 10, 6, 24, 0}, {500, 60, 10, 7, 24, 0},
            {500, 60, 10, 5, 24, 50}, {999, 1, 10, 0, 1, 0}, {999, 120, 10, 0, 108, 99},
            {999, 120, 10, 0, 109, 0}, {999, 120, 10, 0, 240, 0}};
        for (int[] row : rows) {
            DepositProofs x = new DepositProofs();
            x.thing(row[0], row[1], -1, row[2], 0);
            due.is("look(0, " + row[3] + ", " + row[4] + ")", x.look(0, row[3], row[4]), row[5]);
        }
    }

    private static void lookAgain() {
        due.about("5: NOT_POSSIBLE if it was looked at again already");
        DepositProofs x = new DepositProofs();
        x.thing(5, 5, -1, 5, 0);
        x.look(0, 0, 0);
        due.is("looked at in month 0, in the same month", x.look(0, 0, 0), Due.IMPOSSIBLE);
        due.is("later", x.look(0, 5, 240), Due.IMPOSSIBLE);
        x.undo();
        due.is("after an undo", x.look(0, 5, 240), 0);
        due.is("its month", x.thingOf(0, 6), 240);
    }

    private static void lookTooEarly() {
        due.about("5: NOT_POSSIBLE if its first inventory was later than this month");
        DepositProofs x = new DepositProofs();
        x.thing(50, 5, -1, 5, 240);
        x.thing(50, 5, -1, 5, 1);
        due.is("a month ahead", x.look(0, 0, 239), Due.IMPOSSIBLE);
        due.is("in the same month", x.look(0, 0, 240), 25);
        due.is("month 0", x.look(1, 0, 0), Due.IMPOSSIBLE);
        due.is("month 1", x.look(1, 0, 1), 25);
    }

    private static void proofThing() {
        due.about("6: number of the thing");
        due.range("thing", 0, 1, thing -> flat().proof(thing, 0));
        due.is("without things", new DepositProofs().proof(0, 0), Due.INVALID);
    }

    private static void proofKind() {
        due.about("6: kind: 0 to 3");
        due.range("kind", 0, 3, kind -> flat().proof(0, kind));
    }

    private static void proofWeight() {
        due.about("6: returns the weight of its proofs then");
        DepositProofs x = new DepositProofs();
        x.thing(5, 5, -1, 5, 5);
        x.set(0, 0);
        x.set(1, 20);
        x.set(2, 20);
        x.set(3, 20);
        due.is("a weight of 0", x.proof(0, 0), 0);
        due.is("20", x.proof(0, 1), 20);
        due.is("40", x.proof(0, 2), 40);
        x.set(0, 20);
        due.is("80, the most", x.proof(0, 3), 80);
    }

    private static void proofAgain() {
        due.about("6: NOT_POSSIBLE if it has this proof");
        for (int kind = 0; kind < 4; kind++) {
            DepositProofs x = flat();
            x.set(kind, 0);
            due.is("proof " + kind, x.proof(1, kind), 0);
            due.is("again", x.proof(1, kind), Due.IMPOSSIBLE);
            due.is("the other thing", x.proof(0, kind), 0);
            x.undo();
            x.undo();
            due.is("after an undo", x.proof(1, kind), 0);
        }
    }

    private static void disputeThing() {
        due.about("7: number of the thing");
        due.range("thing", 0, 1, thing -> flat().dispute(thing, 0));
        due.is("without things", Due.after(x -> x.tenant(5, 5)).dispute(0, 0), Due.INVALID);
    }

    private static void disputeTenant() {
        due.about("7: number of the tenant");
        due.range("tenant", 0, 1, tenant -> flat().dispute(1, tenant));
        due.is("without tenants", Due.after(x -> x.thing(5, 5, -1, 5, 5)).dispute(0, 0), Due.INVALID);
    }

    private static void disputeKept() {
        due.about("7: returns what is kept for it then");
        due.is("not proved", flat().dispute(0, 0), 0);
        DepositProofs x = flat();
        x.proof(0, 0);
        x.proof(0, 1);
        due.is("proved by just the weight needed", x.dispute(0, 0), 40);
        x.set(4, 6);
        x.agree(0, 0);
        due.is("1 is missing", x.dispute(0, 0), 0);
        x = flat();
        x.set(4, 0);
        due.is("no weight needed", x.dispute(1, 0), 40);
        due.is("by a second tenant", x.dispute(1, 1), 40);
    }

    private static void disputeAlready() {
        due.about("7: NOT_POSSIBLE if the tenant disputes it already");
        DepositProofs x = flat();
        x.dispute(1, 1);
        due.is("again", x.dispute(1, 1), Due.IMPOSSIBLE);
        due.is("the other tenant", x.dispute(1, 0), 0);
        due.is("again, when both do", x.dispute(1, 1), Due.IMPOSSIBLE);
        x.agree(1, 1);
        due.is("after an agreement", x.dispute(1, 1), 0);
    }

    private static void disputeNoLoss() {
        due.about("7: NOT_POSSIBLE if it has no loss");
        DepositProofs x = flat();
        x.thing(10, 10, 0, 10, 0);
        due.is("not looked at again", x.dispute(2, 0), Due.IMPOSSIBLE);
        x.look(2, 10, 0);
        due.is("a loss of 0", x.dispute(2, 0), Due.IMPOSSIBLE);
        x.undo();
        due.is("a loss of 1", x.look(2, 9, 0), 1);
        due.is("can be disputed", x.dispute(2, 0), 0);
    }

    private static void disputeNoShare() {
        due.about("7: NOT_POSSIBLE if the tenant has no share of it");
        DepositProofs x = flat();
        x.tenant(5, 5);
        x.tenant(5, 4);
        due.is("another one's", x.dispute(0, 1), Due.IMPOSSIBLE);
        due.is("shared, without months", x.dispute(1, 2), Due.IMPOSSIBLE);
        due.is("shared, a month", x.dispute(1, 3), 0);
        x.go(0, 0);
        due.is("the own one, without months", x.dispute(0, 0), 0);
        due.is("shared, gone in month 0", x.dispute(1, 0), Due.IMPOSSIBLE);
    }

    private static void agreeThing() {
        due.about("8: number of the thing");
        due.range("thing", 0, 1, thing -> disputed().agree(thing, 0));
        due.is("without things", Due.after(x -> x.tenant(5, 5)).agree(0, 0), Due.INVALID);
    }

    /** The flat with all disputes that are possible in it. */
    private static DepositProofs disputed() {
        DepositProofs x = flat();
        x.dispute(0, 0);
        x.dispute(1, 0);
        x.dispute(1, 1);
        return x;
    }

    private static void agreeTenant() {
        due.about("8: number of the tenant");
        due.range("tenant", 0, 1, tenant -> disputed().agree(1, tenant));
        due.is("without tenants", Due.after(x -> x.thing(5, 5, -1, 5, 5)).agree(0, 0), Due.INVALID);
    }

    private static void agreeKept() {
        due.about("8: returns what is kept for it then");
        due.is("nobody disputes it then", disputed().agree(0, 0), 81);
        DepositProofs x = disputed();
        due.is("one disputes it then", x.agree(1, 0), 0);
        due.is("nobody then", x.agree(1, 1), 81);
        x = disputed();
        x.set(4, 0);
        due.is("proved, one disputes it then", x.agree(1, 1), 40);
        due.is("proved, nobody then", x.agree(1, 0), 81);
    }

    private static void agreeNotDisputed() {
        due.about("8: NOT_POSSIBLE if the tenant does not dispute it");
        DepositProofs x = flat();
        due.is("nobody disputes it", x.agree(1, 0), Due.IMPOSSIBLE);
        x.dispute(1, 1);
        due.is("another tenant does", x.agree(1, 0), Due.IMPOSSIBLE);
        due.is("another thing", x.agree(0, 1), Due.IMPOSSIBLE);
        x.agree(1, 1);
        due.is("agreed already", x.agree(1, 1), Due.IMPOSSIBLE);
        x.dispute(1, 1);
        x.go(1, 0);
        due.is("it has no share any more, but disputes it", x.agree(1, 1), 81);
    }

    private static void decideThing() {
        due.about("9: number of the thing");
        due.range("thing", 0, 1, thing -> disputed().decide(thing, 70));
        due.is("without things", new DepositProofs().decide(0, 70), Due.INVALID);
    }

    private static void decideHundredths() {
        due.about("9: hundredths: 0 to 100");
        due.range("hundredths", 0, 100, hundredths -> disputed().decide(0, hundredths));
    }

    private static void decideKept() {
        due.about("9: returns what is kept for it then");
        due.is("not proved", disputed().decide(0, 100), 0);
        DepositProofs x = disputed();
        x.set(4, 0);
        due.is("0", x.decide(0, 0), 0);
        due.is("1 of 81", x.decide(0, 1), 0);
        due.is("2 of 81", x.decide(0, 2), 1);
        due.is("99 of 81", x.decide(0, 99), 80);
        due.is("100", x.decide(0, 100), 81);
    }

    private static void decideNobody() {
        due.about("9: NOT_POSSIBLE if nobody disputes it");
        DepositProofs x = flat();
        due.is("nobody", x.decide(1, 70), Due.IMPOSSIBLE);
        x.dispute(1, 1);
        due.is("another thing", x.decide(0, 70), Due.IMPOSSIBLE);
        due.is("the last tenant does", x.decide(1, 70), 0);
        x.agree(1, 1);
        due.is("nobody any more", x.decide(1, 60), Due.IMPOSSIBLE);
        due.is("decided before", x.thingOf(1, 13), 70);
    }

    private static void setWhat() {
        due.about("10: what: 0 to 4");
        due.range("what", 0, 4, what -> new DepositProofs().set(what, 1));
    }

    private static void setValue() {
        due.about("10: a value in its range");
        for (int kind = 0; kind < 4; kind++) {
            int what = kind;
            due.range("weight " + what, 0, 20, value -> new DepositProofs().set(what, value));
        }
        due.range("the weight needed", 0, 80, value -> new DepositProofs().set(4, value));
    }

    private static void setBefore() {
        due.about("10: returns what it was");
        int[] first = {2, 3, 2, 3, 5};
        for (int what = 0; what < 5; what++) {
            DepositProofs x = new DepositProofs();
            due.is("the first value", x.set(what, 0), first[what]);
            due.is("0", x.set(what, 20), 0);
            due.is("20", x.set(what, 20), 20);
            x.set(what, 81);
            due.is("20, after an error", x.set(what, 1), 20);
            x.undo();
            due.is("20, after an undo", x.set(what, 1), 20);
        }
    }
}
