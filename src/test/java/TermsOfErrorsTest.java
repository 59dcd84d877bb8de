import java.util.function.Consumer;
import java.util.function.ToIntFunction;

/** The section "Terms", changes, errors and constants: a test for each sentence of a boundary case. */
public final class TermsOfErrorsTest {
    private static final Due due = new Due();

    public static void main(String[] args) {
        callsThatAreChanges();
        callsThatAreNoChanges();
        errorsAreNoChanges();
        atMostFourStates();
        theOldestIsDropped();
        everythingBeforeIsRecorded();
        butTheText();
        invalidRatherThanNotPossible();
        invalidRatherThanLimit();
        invalidRatherThanNotFound();
        errorsOfTenantsAndThingsChangeNothing();
        errorsOfDisputesChangeNothing();
        errorsOfTextsChangeNothing();
        limitsChangeNothing();
        noSuchTenant();
        noSuchThing();
        constants();
        due.end();
    }

    /**
     * Tenants 0 and 1; things: 0 of tenant 0 with a loss, 1 of tenant 1 with a loss that is disputed,
     * 2 shared and not looked at again; thing 1 has a proof. The history is full, the text a command.
     */
    private static void flat(DepositProofs x) {
        x.tenant(300, 0);
        x.tenant(200, 9);
        x.thing(90, 100, 0, 10, 0);
        x.thing(50, 100, 1, 10, 0);
        x.thing(9, 9, -1, 9, 9);
        x.look(0, 0, 5);
        x.look(1, 1, 5);
        x.proof(1, 0);
        x.dispute(1, 1);
        x.decide(1, 60);
        Due.type(x, "t5,5;");
    }

    /** The same with an empty history. */
    private static void flatWithoutHistory(DepositProofs x) {
        flat(x);
        // Four changes that are undone leave nothing of the states before them.
        for (int i = 0; i < 4; i++) {
            x.set(3, 3);
        }
        for (int i = 0; i < 4; i++) {
            x.undo();
        }
    }

    private static void callsThatAreChanges() {
        due.about("Terms: the changes are tenant, go, thing, look, proof, dispute, agree, decide, set, play");
        changes("tenant", x -> x.tenant(5, 5));
        changes("go", x -> x.go(0, 5));
        changes("thing", x -> x.thing(5, 5, 0, 5, 5));
        changes("look", x -> x.look(2, 5, 10));
        changes("proof", x -> x.proof(0, 3));
        changes("dispute", x -> x.dispute(0, 0));
        changes("agree", x -> x.agree(1, 1));
        changes("decide", x -> x.decide(1, 70));
        changes("decide as before", x -> x.decide(1, 60));
        changes("set", x -> x.set(2, 7));
        changes("set as before", x -> x.set(2, 2));
        changes("play", x -> x.play());
        changes("play of nothing", x -> {
            x.clearText();
            return x.play();
        });
    }

    /** The call makes a state, and undo restores what was before it, also with a full history. */
    private static void changes(String name, ToIntFunction<DepositProofs> call) {
        for (int steps = 1; steps <= 4; steps++) {
            DepositProofs x = Due.after(TermsOfErrorsTest::flat);
            DepositProofs y = Due.after(TermsOfErrorsTest::flat);
            call.applyAsInt(x);
            y.set(4, 5);
            due.is("states after " + name, x.count(11), 4);
            for (int i = 0; i < steps; i++) {
                due.is("undo of " + name, x.undo(), y.undo());
            }
            Due.write(x, "t5,5;");
            due.same(name + ", " + steps + " steps back", Due.picture(x), Due.picture(y));
        }
        changesFirst(name, call);
    }

    private static void changesFirst(String name, ToIntFunction<DepositProofs> call) {
        DepositProofs x = Due.after(TermsOfErrorsTest::flatWithoutHistory);
        due.is("states before " + name, x.count(11), 0);
        due.is(name + " is possible", call.applyAsInt(x) >= 0 ? 1 : 0, 1);
        due.is("states after " + name, x.count(11), 1);
        due.is("undo of " + name, x.undo(), 0);
        Due.write(x, "t5,5;");
        String before = Due.picture(Due.after(TermsOfErrorsTest::flatWithoutHistory));
        due.same(name + " and undo", Due.picture(x), before);
    }

    private static void callsThatAreNoChanges() {
        due.about("Terms: other calls are no changes");
        DepositProofs x = Due.after(TermsOfErrorsTest::flatWithoutHistory);
        Due.picture(x);
        x.wouldProve(0, 0);
        due.is("states after questions", x.count(11), 0);
        x.type('t');
        due.is("states after type", x.count(11), 0);
        x.fault(0);
        x.clearText();
        due.is("states after clearText", x.count(11), 0);
        x.set(0, 9);
        x.undo();
        due.is("states after undo", x.count(11), 0);
        due.is("undo is not undone", x.undo(), Due.IMPOSSIBLE);
    }

    private static void errorsAreNoChanges() {
        due.about("Terms: calls that return an error are no changes");
        DepositProofs x = Due.after(TermsOfErrorsTest::flatWithoutHistory);
        int[] errors = {x.tenant(-1, 0), x.go(0, 241), x.go(1, 8), x.thing(0, 1, 0, 1, 1),
            x.look(2, 5, 8), x.look(0, 5, 9), x.proof(1, 0), x.dispute(1, 1), x.dispute(0, 1),
            x.agree(0, 0), x.decide(0, 50), x.set(4, 81)};
        for (int error : errors) {
            due.is("an error", error < 0 ? 1 : 0, 1);
        }
        Due.write(x, "g1,8;");
        due.is("a play with a fault", x.play(), Due.IMPOSSIBLE);
        due.is("states", x.count(11), 0);
        due.is("undo", x.undo(), Due.IMPOSSIBLE);
    }

    private static void atMostFourStates() {
        due.about("Terms: a history of at most 4 states is kept");
        DepositProofs x = new DepositProofs();
        for (int change = 1; change <= 9; change++) {
            due.is("states before change " + change, x.count(11), Math.min(4, change - 1));
            x.set(0, change);
            due.is("states after change " + change, x.count(11), Math.min(4, change));
        }
        due.is("undo", x.undo(), 3);
        x.set(0, 10);
        due.is("states", x.count(11), 4);
    }

    private static void theOldestIsDropped() {
        due.about("Terms: if there are 5 states then, the oldest one is dropped");
        for (int changes = 4; changes <= 10; changes++) {
            DepositProofs x = new DepositProofs();
            for (int change = 1; change <= changes; change++) {
                x.set(0, change);
            }
            for (int left = 3; left >= 0; left--) {
                due.is("undo", x.undo(), left);
                int want = changes - 4 + left;
                due.is("setting of " + changes + " changes", x.count(20), want == 0 ? 2 : want);
            }
            due.is("the one before was dropped", x.undo(), Due.IMPOSSIBLE);
            due.is("it stays", x.count(20), changes == 4 ? 2 : changes - 4);
        }
    }

    private static void everythingBeforeIsRecorded() {
        due.about("Terms: each change records everything before it");
        String before = Due.picture(Due.after(TermsOfErrorsTest::flatWithoutHistory));
        DepositProofs x = Due.after(TermsOfErrorsTest::flatWithoutHistory);
        // One change that touches all that there is, but for settings and agreements.
        Due.write(x, "t7,7;g0,9;g1,9;i3,3,0,3,3;o2,0,9;p0,0;p0,1;p1,1;p2,3;d0,0;v0,9;v1,8;");
        due.is("play", x.play(), 12);
        due.is("undo", x.undo(), 0);
        Due.write(x, "t5,5;");
        due.same("play and undo", Due.picture(x), before);
        x.agree(1, 1);
        x.set(4, 0);
        x.set(3, 20);
        x.set(1, 20);
        for (int i = 0; i < 4; i++) {
            x.undo();
        }
        due.is("who dispute", x.thingOf(1, 12), 2);
        due.is("settings", x.count(21) * 100 + x.count(23) * 10 + x.count(24), 335);
    }

    private static void butTheText() {
        due.about("Terms: each change records everything before it but the text");
        DepositProofs x = new DepositProofs();
        Due.type(x, "t5");
        x.set(0, 1);
        Due.type(x, ",5;");
        x.set(0, 2);
        due.is("undo", x.undo(), 1);
        due.is("length", x.count(12), 5);
        due.is("undo", x.undo(), 0);
        due.is("length", x.count(12), 5);
        due.is("play", x.play(), 1);
        x.clearText();
        due.is("undo", x.undo(), 0);
        due.is("the emptied text stays empty", x.count(12), 0);
        due.is("no fault", x.fault(0), Due.NONE);
    }

    private static void invalidRatherThanNotPossible() {
        due.about("Terms: INVALID_ARGUMENT is returned rather than NOT_POSSIBLE");
        DepositProofs x = Due.after(TermsOfErrorsTest::flat);
        x.go(0, 5);
        due.is("gone, month 241", x.go(0, 241), Due.INVALID);
        due.is("came later, month -1", x.go(1, -1), Due.INVALID);
        due.is("looked at, condition 11", x.look(0, 11, 9), Due.INVALID);
        due.is("looked at, condition -1", x.look(0, -1, 9), Due.INVALID);
        due.is("looked at, month 241", x.look(0, 5, 241), Due.INVALID);
        due.is("first inventory later, month -1", x.look(2, 5, -1), Due.INVALID);
        due.is("first inventory later, condition 11", x.look(2, 11, 8), Due.INVALID);
        due.is("not looked at, tenant 2", x.dispute(2, 2), Due.INVALID);
        due.is("disputed, tenant 2", x.dispute(1, 2), Due.INVALID);
        due.is("not disputed, tenant -1", x.agree(0, -1), Due.INVALID);
        due.is("not disputed, tenant 2", x.agree(0, 2), Due.INVALID);
        due.is("not disputed, 101 hundredths", x.decide(0, 101), Due.INVALID);
        due.is("not disputed, -1 hundredths", x.decide(0, -1), Due.INVALID);
        for (int kind = 0; kind < 4; kind++) {
            x.proof(0, kind);
        }
        due.is("all proofs, kind 4", x.proof(0, 4), Due.INVALID);
        due.is("all proofs, kind 32", x.proof(0, 32), Due.INVALID);
    }

    private static void invalidRatherThanLimit() {
        due.about("Terms: INVALID_ARGUMENT is returned rather than LIMIT_REACHED");
        DepositProofs x = new DepositProofs();
        for (int i = 0; i < 6; i++) {
            x.tenant(5, 5);
        }
        for (int i = 0; i < 12; i++) {
            x.thing(5, 5, -1, 5, 5);
        }
        Due.type(x, "x".repeat(80));
        due.is("tenant(-1, 5)", x.tenant(-1, 5), Due.INVALID);
        due.is("tenant(10000, 5)", x.tenant(10000, 5), Due.INVALID);
        due.is("tenant(5, 241)", x.tenant(5, 241), Due.INVALID);
        due.is("value 0", x.thing(0, 5, -1, 5, 5), Due.INVALID);
        due.is("life 121", x.thing(5, 121, -1, 5, 5), Due.INVALID);
        due.is("tenant 6", x.thing(5, 5, 6, 5, 5), Due.INVALID);
        due.is("tenant -2", x.thing(5, 5, -2, 5, 5), Due.INVALID);
        due.is("condition 11", x.thing(5, 5, -1, 11, 5), Due.INVALID);
        due.is("month 241", x.thing(5, 5, -1, 5, 241), Due.INVALID);
        due.is("type(31)", x.type(31), Due.INVALID);
        due.is("type(127)", x.type(127), Due.INVALID);
    }

    private static void invalidRatherThanNotFound() {
        due.about("Terms: INVALID_ARGUMENT is returned rather than NOT_FOUND");
        DepositProofs x = new DepositProofs();
        due.is("going of no tenant", x.tenantOf(0, 2), Due.INVALID);
        due.is("whose is no thing", x.thingOf(0, 2), Due.INVALID);
        due.is("loss of no thing", x.thingOf(0, 9), Due.INVALID);
        due.is("order 3 of no things", x.orderAt(3, 0), Due.INVALID);
        due.is("place -1 of no things", x.orderAt(0, -1), Due.INVALID);
        due.is("bestProof(3) of none", x.bestProof(3), Due.INVALID);
        due.is("bestProof(-1) of none", x.bestProof(-1), Due.INVALID);
        due.is("fault(2) of none", x.fault(2), Due.INVALID);
        due.is("fault(-1) of none", x.fault(-1), Due.INVALID);
    }

    private static void refused(String name, ToIntFunction<DepositProofs> call, int want) {
        due.refused(name, TermsOfErrorsTest::flat, call, want);
    }

    private static void errorsOfTenantsAndThingsChangeNothing() {
        due.about("Terms: a call that returns an error changes nothing (tenants, things)");
        refused("tenant(10000, 5)", x -> x.tenant(10000, 5), Due.INVALID);
        refused("tenant(5, 241)", x -> x.tenant(5, 241), Due.INVALID);
        refused("go(2, 9)", x -> x.go(2, 9), Due.INVALID);
        refused("go(0, 241)", x -> x.go(0, 241), Due.INVALID);
        refused("go(1, 8)", x -> x.go(1, 8), Due.IMPOSSIBLE);
        due.refused("go again", x -> {
            flat(x);
            x.go(0, 7);
        }, x -> x.go(0, 8), Due.IMPOSSIBLE);
        refused("thing of value 1000", x -> x.thing(1000, 5, 0, 5, 5), Due.INVALID);
        refused("thing in month 241", x -> x.thing(5, 5, 0, 5, 241), Due.INVALID);
        refused("look in month 241", x -> x.look(2, 5, 241), Due.INVALID);
        refused("look too early", x -> x.look(2, 5, 8), Due.IMPOSSIBLE);
        refused("look again", x -> x.look(0, 5, 20), Due.IMPOSSIBLE);
    }

    private static void errorsOfDisputesChangeNothing() {
        due.about("Terms: a call that returns an error changes nothing (proofs, disputes)");
        refused("proof of kind 4", x -> x.proof(0, 4), Due.INVALID);
        refused("proof again", x -> x.proof(1, 0), Due.IMPOSSIBLE);
        refused("dispute by no tenant", x -> x.dispute(0, 2), Due.INVALID);
        refused("dispute again", x -> x.dispute(1, 1), Due.IMPOSSIBLE);
        refused("dispute without a share", x -> x.dispute(0, 1), Due.IMPOSSIBLE);
        refused("dispute without a loss", x -> x.dispute(2, 0), Due.IMPOSSIBLE);
        refused("agree without a dispute", x -> x.agree(0, 0), Due.IMPOSSIBLE);
        refused("agree by no tenant", x -> x.agree(1, 2), Due.INVALID);
        refused("decide 101", x -> x.decide(1, 101), Due.INVALID);
        refused("decide without a dispute", x -> x.decide(0, 70), Due.IMPOSSIBLE);
        refused("set(4, 81)", x -> x.set(4, 81), Due.INVALID);
        refused("set(0, 21)", x -> x.set(0, 21), Due.INVALID);
        refused("set(5, 1)", x -> x.set(5, 1), Due.INVALID);
    }

    private static void errorsOfTextsChangeNothing() {
        due.about("Terms: a call that returns an error changes nothing (undo, texts)");
        due.refused("undo", TermsOfErrorsTest::flatWithoutHistory, x -> x.undo(), Due.IMPOSSIBLE);
        refused("type(31)", x -> x.type(31), Due.INVALID);
        refused("type(127)", x -> x.type(127), Due.INVALID);
        for (String fault : new String[] {"x", "g1,241;", "g1,8;"}) {
            Consumer<DepositProofs> run = x -> {
                flat(x);
                Due.type(x, "g0,9;i5,5,0,5,5;p0,0;d0,0;v0,10;o2,1,9;" + fault);
            };
            due.refused("play with " + fault, run, x -> x.play(), Due.IMPOSSIBLE);
            due.refused("fault(2) with " + fault, run, x -> x.fault(2), Due.INVALID);
        }
    }

    private static void limitsChangeNothing() {
        due.about("Terms: a call that returns an error changes nothing (limits)");
        Consumer<DepositProofs> tenants = x -> {
            for (int i = 0; i < 6; i++) {
                x.tenant(5 + i, i);
            }
        };
        Consumer<DepositProofs> things = x -> {
            for (int i = 0; i < 12; i++) {
                x.thing(5 + i, 5, -1, 5, i);
            }
        };
        due.refused("a seventh tenant", tenants, x -> x.tenant(99, 99), Due.LIMIT);
        due.refused("a thirteenth thing", things, x -> x.thing(99, 99, -1, 9, 99), Due.LIMIT);
        due.refused("an 81st character", x -> Due.type(x, "t5,5;".repeat(5) + " ".repeat(55)),
                x -> x.type('t'), Due.LIMIT);
        DepositProofs x = Due.after(y -> Due.type(y, "t5,5;".repeat(6) + "t5,5;".repeat(10)));
        x.type('x');
        due.is("the fault is the seventh tenant's", x.fault(0), 30);
    }

    private static void noSuchTenant() {
        due.about("Terms: if there is no tenant with a certain number, this is INVALID_ARGUMENT");
        for (int tenants = 0; tenants <= 6; tenants++) {
            DepositProofs x = new DepositProofs();
            for (int i = 0; i < tenants; i++) {
                x.tenant(5, 0);
            }
            x.thing(10, 10, -1, 10, 0);
            x.look(0, 0, 1);
            for (int tenant : new int[] {-2, -1, tenants, tenants + 1, 6, 7, 32, Integer.MAX_VALUE}) {
                due.is("go " + tenant, x.go(tenant, 5), Due.INVALID);
                if (tenant != -1) {
                    due.is("thing of " + tenant, x.thing(5, 5, tenant, 5, 5), Due.INVALID);
                }
                due.is("dispute " + tenant, x.dispute(0, tenant), Due.INVALID);
                due.is("agree " + tenant, x.agree(0, tenant), Due.INVALID);
                due.is("tenantOf " + tenant, x.tenantOf(tenant, 0), Due.INVALID);
                due.is("shareOf " + tenant, x.shareOf(0, tenant, 0), Due.INVALID);
                due.is("wouldSave " + tenant, x.wouldSave(tenant), Due.INVALID);
            }
        }
    }

    private static void noSuchThing() {
        due.about("Terms: if there is no thing with a certain number, this is INVALID_ARGUMENT");
        for (int things = 0; things <= 12; things += 4) {
            DepositProofs x = Due.after(y -> y.tenant(5, 0));
            for (int i = 0; i < things; i++) {
                x.thing(10, 10, 0, 10, 0);
            }
            for (int thing : new int[] {-2, -1, things, things + 1, 12, 13, 32, Integer.MAX_VALUE}) {
                due.is("look " + thing, x.look(thing, 5, 5), Due.INVALID);
                due.is("proof " + thing, x.proof(thing, 0), Due.INVALID);
                due.is("dispute " + thing, x.dispute(thing, 0), Due.INVALID);
                due.is("agree " + thing, x.agree(thing, 0), Due.INVALID);
                due.is("decide " + thing, x.decide(thing, 50), Due.INVALID);
                due.is("thingOf " + thing, x.thingOf(thing, 0), Due.INVALID);
                due.is("shareOf " + thing, x.shareOf(thing, 0, 0), Due.INVALID);
                due.is("wouldProve " + thing, x.wouldProve(thing, 0), Due.INVALID);
            }
        }
    }

    private static void constants() {
        due.about("Terms: the constants");
        due.is("INVALID_ARGUMENT", DepositProofs.INVALID_ARGUMENT, -1);
        due.is("NOT_POSSIBLE", DepositProofs.NOT_POSSIBLE, -2);
        due.is("LIMIT_REACHED", DepositProofs.LIMIT_REACHED, -3);
        due.is("NOT_FOUND", DepositProofs.NOT_FOUND, -4);
    }
}
