/** Promises 16 to 21: wouldProve, bestProof, wouldSave, keptBits, careBits, undo. */
public final class WouldBeTest {
    private static final Due due = new Due();

    public static void main(String[] args) {
        oneMoreProof();
        theBestProof();
        theBestProofOfMany();
        savings();
        savingsByRounding();
        keptParts();
        care();
        stepsBack();
        due.end();
    }

    /** Tenants 0 and 1 from month 0; a thing of tenant 0 and one of 1 with losses of 81 and 40. */
    private static DepositProofs flat() {
        DepositProofs x = new DepositProofs();
        x.tenant(300, 0);
        x.tenant(200, 0);
        x.thing(90, 100, 0, 10, 0);
        x.thing(50, 100, 1, 10, 0);
        x.look(0, 0, 5);
        x.look(1, 1, 5);
        return x;
    }

    private static void oneMoreProof() {
        due.about("promise 16");
        DepositProofs x = new DepositProofs();
        due.is("without things", x.wouldProve(0, 0), Due.INVALID);
        x = flat();
        due.is("thing -1", x.wouldProve(-1, 0), Due.INVALID);
        due.is("thing 2", x.wouldProve(2, 0), Due.INVALID);
        due.is("kind -1", x.wouldProve(0, -1), Due.INVALID);
        due.is("kind 4", x.wouldProve(0, 4), Due.INVALID);
        for (int far : Due.FAR) {
            due.is("thing far", x.wouldProve(far, 0), Due.INVALID);
            due.is("kind far", x.wouldProve(0, far), Due.INVALID);
        }
        due.is("not disputed", x.wouldProve(0, 1), 0);
        x.dispute(0, 0);
        for (int kind = 0; kind < 4; kind++) {
            due.is("no proof is enough", x.wouldProve(0, kind), 0);
        }
        x.proof(0, 1);
        int[] want = {40, 0, 40, 40};
        for (int kind = 0; kind < 4; kind++) {
            due.is("with one of weight 3", x.wouldProve(0, kind), want[kind]);
        }
        x.decide(0, 70);
        due.is("70 of 100", x.wouldProve(0, 3), 56);
        x.set(4, 6);
        due.is("3 + 2 of 6", x.wouldProve(0, 2), 0);
        due.is("3 + 3 of 6", x.wouldProve(0, 3), 56);
        due.is("it has this proof", x.wouldProve(0, 1), 0);
        x.proof(0, 3);
        due.is("proved already", x.wouldProve(0, 2), 0);
        due.is("nothing is changed", x.thingOf(0, 10), 10);
        DepositProofs y = new DepositProofs();
        y.tenant(300, 0);
        y.thing(90, 100, -1, 10, 3);
        y.look(0, 0, 8);
        y.dispute(0, 0);
        y.set(4, 3);
        due.is("shared", y.wouldProve(0, 1), 40);
        y.go(0, 3);
        due.is("borne by nobody", y.wouldProve(0, 1), 0);
    }

    private static void theBestProof() {
        due.about("promise 17");
        DepositProofs x = flat();
        due.is("what -1", x.bestProof(-1), Due.INVALID);
        due.is("what 3", x.bestProof(3), Due.INVALID);
        for (int far : Due.FAR) {
            due.is("what far", x.bestProof(far), Due.INVALID);
        }
        best(x, Due.NONE, Due.NONE, Due.NONE);
        x.dispute(0, 0);
        x.dispute(1, 1);
        best(x, Due.NONE, Due.NONE, Due.NONE);
        x.set(4, 3);
        best(x, 0, 1, 40);
        x.decide(1, 100);
        // The loss of thing 1 is 40: now both would be 40, and the lowest number counts.
        best(x, 0, 1, 40);
        x.decide(0, 49);
        best(x, 1, 1, 40);
        x.set(4, 2);
        best(x, 1, 0, 40);
        x.set(0, 0);
        best(x, 1, 1, 40);
        x.set(1, 0);
        best(x, 1, 2, 40);
        x.set(2, 0);
        best(x, 1, 3, 40);
        x.proof(1, 3);
        best(x, 0, 3, 39);
        x.decide(0, 1);
        best(x, Due.NONE, Due.NONE, Due.NONE);
        x.decide(0, 2);
        best(x, 0, 3, 1);
        x.set(4, 0);
        best(x, Due.NONE, Due.NONE, Due.NONE);
        due.is("what 3, none there", x.bestProof(3), Due.INVALID);
    }

    private static void best(DepositProofs x, int thing, int kind, int more) {
        due.is("bestProof(0)", x.bestProof(0), thing);
        due.is("bestProof(1)", x.bestProof(1), kind);
        due.is("bestProof(2)", x.bestProof(2), more);
    }

    /** One tenant with twelve things: the best proof is one for the last of them. */
    private static void theBestProofOfMany() {
        DepositProofs x = new DepositProofs();
        x.tenant(300, 0);
        x.set(4, 1);
        for (int thing = 0; thing < 12; thing++) {
            x.thing(10 + thing, 10, 0, 10, 0);
            x.look(thing, 0, 0);
            x.dispute(thing, 0);
            best(x, thing, 0, (10 + thing) / 2);
            x.proof(thing, 0);
        }
        best(x, Due.NONE, Due.NONE, Due.NONE);
    }

    private static void savings() {
        due.about("promise 18");
        DepositProofs x = new DepositProofs();
        due.is("without tenants", x.wouldSave(0), Due.INVALID);
        x = flat();
        due.is("tenant -1", x.wouldSave(-1), Due.INVALID);
        due.is("tenant 2", x.wouldSave(2), Due.INVALID);
        for (int far : Due.FAR) {
            due.is("tenant far", x.wouldSave(far), Due.INVALID);
        }
        due.is("all of an own thing", x.wouldSave(0), 81);
        due.is("the other one's", x.wouldSave(1), 40);
        x.proof(0, 0);
        x.proof(0, 1);
        due.is("half of it, proved", x.wouldSave(0), 41);
        due.is("nothing is disputed", x.count(9), 0);
        x.dispute(0, 0);
        due.is("disputed already", x.wouldSave(0), 0);
        x.thing(100, 100, -1, 10, 0);
        x.look(2, 0, 6);
        due.is("a half of 90", x.wouldSave(0), 45);
        due.is("a half of 90 and 40", x.wouldSave(1), 85);
        x.dispute(2, 1);
        due.is("the other disputes it", x.wouldSave(0), 0);
        due.is("40 are left", x.wouldSave(1), 40);
        x.set(4, 0);
        due.is("only half of 40", x.wouldSave(1), 20);
        x.agree(2, 1);
        due.is("half of half of 90: 45 less 23", x.wouldSave(0), 22);
        due.is("45 less 22, and 20", x.wouldSave(1), 43);
    }

    private static void savingsByRounding() {
        due.about("promise 18, more by rounding");
        DepositProofs x = new DepositProofs();
        x.tenant(100, 0);
        x.tenant(100, 0);
        x.tenant(100, 0);
        x.thing(16, 4, -1, 10, 0);
        x.look(0, 0, 2);
        x.go(1, 1);
        x.set(4, 0);
        x.dispute(0, 0);
        x.decide(0, 90);
        due.is("of 7 at months 2, 1, 2", x.shareOf(0, 1, 0), 2);
        x.agree(0, 0);
        due.is("of 8 at months 2, 1, 2", x.shareOf(0, 1, 0), 1);
        due.is("4 less 3", x.wouldSave(0), 1);
        due.is("it would be more", x.wouldSave(1), 0);
        due.is("3 less 2", x.wouldSave(2), 1);
        x.thing(10, 10, 1, 10, 0);
        x.look(1, 0, 0);
        due.is("the sum counts: 1 + 10 less 2 + 5", x.wouldSave(1), 4);
    }

    private static void keptParts() {
        due.about("promise 19");
        DepositProofs x = new DepositProofs();
        due.is("no tenants", x.keptBits(), Due.NONE);
        x.tenant(0, 0);
        x.thing(10, 10, 0, 10, 0);
        x.look(0, 0, 0);
        due.is("all deposits are 0", x.keptBits(), Due.NONE);
        x.tenant(1, 0);
        due.is("0 of 1", x.keptBits(), 0);
        x.thing(10, 10, 1, 10, 0);
        x.look(1, 9, 0);
        due.is("1 of 1", x.keptBits(), Float.floatToIntBits(1f));
        int[][] rows = {{1, 3}, {2, 3}, {1, 9999}, {998, 9999}, {999, 9999}, {333, 1000}, {7, 10},
            {1, 2}, {255, 256}, {511, 4096}, {123, 7919}, {999, 1000}, {1, 4}, {3, 7}, {900, 901}};
        for (int[] row : rows) {
            x = new DepositProofs();
            x.tenant(row[1], 0);
            x.thing(row[0], 10, 0, 10, 0);
            x.look(0, 0, 0);
            due.is(row[0] + " of " + row[1], x.keptBits(),
                    Float.floatToIntBits((float) row[0] / (float) row[1]));
        }
        x = new DepositProofs();
        for (int tenant = 0; tenant < 6; tenant++) {
            x.tenant(9999, 0);
        }
        x.thing(1, 10, 0, 10, 0);
        x.look(0, 0, 0);
        due.is("1 of 59994", x.keptBits(), Float.floatToIntBits(1f / 59994f));
        x = new DepositProofs();
        x.tenant(10, 0);
        x.tenant(90, 0);
        x.thing(50, 10, 0, 10, 0);
        x.look(0, 0, 0);
        due.is("no more than the deposit of one", x.keptBits(), Float.floatToIntBits(10f / 100f));
    }

    private static void care() {
        due.about("promise 20");
        DepositProofs x = new DepositProofs();
        due.is("no things", x.careBits(), Due.NONE);
        x.thing(10, 10, -1, 8, 0);
        due.is("none looked at", x.careBits(), Due.NONE);
        x.look(0, 8, 0);
        due.is("as it was: 0", x.careBits(), 0);
        x.thing(10, 10, -1, 8, 0);
        due.is("another, not looked at", x.careBits(), 0);
        x.look(1, 7, 0);
        due.is("-1 of 2", x.careBits(), Float.floatToIntBits(-0.5f));
        x.thing(10, 10, -1, 0, 0);
        x.look(2, 10, 0);
        due.is("9 of 3", x.careBits(), Float.floatToIntBits(3f));
        x.thing(10, 10, -1, 0, 0);
        x.look(3, 10, 0);
        due.is("19 of 4", x.careBits(), Float.floatToIntBits(4.75f));
        x.thing(10, 10, -1, 0, 0);
        x.look(4, 4, 0);
        due.is("23 of 5", x.careBits(), Float.floatToIntBits(23f / 5f));
        for (int last = 0; last <= 10; last++) {
            DepositProofs y = new DepositProofs();
            y.thing(10, 20, -1, 10, 0);
            y.look(0, last, 11);
            due.is("last less fair, 4", y.careBits(), Float.floatToIntBits(last - 4f));
            y.thing(10, 20, -1, 4, 0);
            y.thing(10, 20, -1, 4, 0);
            y.look(1, 4, 0);
            y.look(2, 4, 0);
            due.is("a third", y.careBits(), Float.floatToIntBits((float) (last - 4) / 3f));
        }
        x = new DepositProofs();
        for (int thing = 0; thing < 12; thing++) {
            x.thing(10, 10, -1, 10, 0);
            x.look(thing, thing == 11 ? 9 : 10, 0);
        }
        due.is("-1 of 12", x.careBits(), Float.floatToIntBits(-1f / 12f));
    }

    private static void stepsBack() {
        due.about("promise 21");
        DepositProofs x = new DepositProofs();
        due.is("empty", x.undo(), Due.IMPOSSIBLE);
        String[] numbers = new String[6];
        for (int tenant = 0; tenant < 6; tenant++) {
            numbers[tenant] = numbersOf(x);
            x.tenant(100 + tenant, tenant);
            due.is("states", x.count(11), tenant < 4 ? tenant + 1 : 4);
        }
        due.is("an error with a full history", x.tenant(7, 7), Due.LIMIT);
        due.is("another one", x.go(0, 241), Due.INVALID);
        for (int left = 3; left >= 0; left--) {
            due.is("undo()", x.undo(), left);
            due.same("undo() to " + left, numbersOf(x), numbers[left + 2]);
            due.is("states", x.count(11), left);
        }
        due.is("the oldest were dropped", x.undo(), Due.IMPOSSIBLE);
        due.is("tenants", x.count(0), 2);
        due.is("a change again", x.tenant(7, 7), 2);
        due.is("one state", x.count(11), 1);
        x.set(3, 9);
        Due.type(x, "g0,5;");
        due.is("undo()", x.undo(), 1);
        due.is("the text stays", x.count(12), 5);
        due.is("the setting is as before", x.count(23), 3);
        due.is("undo()", x.undo(), 0);
        due.is("undo()", x.undo(), Due.IMPOSSIBLE);
        freshRows();
    }

    private static String numbersOf(DepositProofs x) {
        StringBuilder all = new StringBuilder();
        for (int tenant = 0; tenant < 6; tenant++) {
            all.append(x.tenantOf(tenant, 0)).append(' ').append(x.tenantOf(tenant, 1)).append(' ');
        }
        return all.append(x.count(0)).toString();
    }

    /** A thing or tenant that is added after one was undone has nothing of that one. */
    private static void freshRows() {
        DepositProofs x = new DepositProofs();
        x.tenant(300, 0);
        x.set(4, 0);
        x.thing(90, 100, 0, 10, 0);
        x.look(0, 0, 5);
        x.dispute(0, 0);
        x.decide(0, 80);
        for (int i = 0; i < 4; i++) {
            x.undo();
        }
        due.is("no thing", x.count(2), 0);
        x.thing(9, 9, 0, 9, 9);
        int[] want = {9, 9, 0, 9, 9, Due.NONE, Due.NONE, Due.NONE, Due.NONE, Due.NONE, 0, 0, 0, 50, 0};
        for (int what = 0; what < want.length; what++) {
            due.is("a fresh thing", x.thingOf(0, what), want[what]);
        }
        due.is("no losses", x.count(4), 0);
        x.undo();
        x.tenant(5, 5);
        x.go(1, 6);
        x.undo();
        x.undo();
        x.tenant(6, 6);
        due.is("a fresh tenant", x.tenantOf(1, 2), Due.NONE);
    }
}
