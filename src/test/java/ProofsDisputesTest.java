/** Promises 6 to 10: proof, dispute, agree, decide, set. */
public final class ProofsDisputesTest {
    private static final Due due = new Due();

    public static void main(String[] args) {
        proofsAreAdded();
        tenantsDispute();
        sharesLetDispute();
        tenantsAgree();
        partsAreDecided();
        disputesOutliveShares();
        settingsAreSet();
        due.end();
    }

    /** Tenants 0 and 1 from month 0; thing 0 of tenant 0 with a loss of 81. */
    private static DepositProofs withLoss() {
        DepositProofs x = new DepositProofs();
        x.tenant(300, 0);
        x.tenant(200, 0);
        x.thing(90, 100, 0, 10, 0);
        x.look(0, 0, 5);
        return x;
    }

    private static void proofsAreAdded() {
        due.about("promise 6");
        DepositProofs x = new DepositProofs();
        due.is("proof without things", x.proof(0, 0), Due.INVALID);
        x.thing(5, 5, -1, 5, 5);
        x.thing(5, 5, -1, 5, 5);
        due.is("thing -1", x.proof(-1, 0), Due.INVALID);
        due.is("thing 2", x.proof(2, 0), Due.INVALID);
        due.is("kind -1", x.proof(0, -1), Due.INVALID);
        due.is("kind 4", x.proof(0, 4), Due.INVALID);
        due.is("kind 32", x.proof(0, 32), Due.INVALID);
        for (int far : Due.FAR) {
            due.is("thing far", x.proof(far, 0), Due.INVALID);
            due.is("kind far", x.proof(0, far), Due.INVALID);
        }
        due.is("none after errors", x.thingOf(0, 10), 0);
        due.is("proof(0, 2)", x.proof(0, 2), 2);
        due.is("proof(0, 2) again", x.proof(0, 2), Due.IMPOSSIBLE);
        due.is("proof(0, 3)", x.proof(0, 3), 5);
        due.is("proof(0, 0)", x.proof(0, 0), 7);
        due.is("proof(0, 1)", x.proof(0, 1), 10);
        for (int kind = 0; kind < 4; kind++) {
            due.is("again", x.proof(0, kind), Due.IMPOSSIBLE);
        }
        due.is("the other thing has none", x.thingOf(1, 10), 0);
        due.is("set(1, 20)", x.set(1, 20), 3);
        due.is("weight by the new setting", x.thingOf(0, 11), 27);
        due.is("proof(1, 1)", x.proof(1, 1), 20);
        due.is("set(0, 0)", x.set(0, 0), 2);
        due.is("a proof without weight", x.proof(1, 0), 20);
        due.is("its proofs", x.thingOf(1, 10), 3);
    }

    private static void tenantsDispute() {
        due.about("promise 7");
        DepositProofs x = new DepositProofs();
        due.is("without things and tenants", x.dispute(0, 0), Due.INVALID);
        x = withLoss();
        due.is("thing -1", x.dispute(-1, 0), Due.INVALID);
        due.is("thing 1", x.dispute(1, 0), Due.INVALID);
        due.is("tenant -1", x.dispute(0, -1), Due.INVALID);
        due.is("tenant 2", x.dispute(0, 2), Due.INVALID);
        for (int far : Due.FAR) {
            due.is("thing far", x.dispute(far, 0), Due.INVALID);
            due.is("tenant far", x.dispute(0, far), Due.INVALID);
        }
        due.is("kept before", x.thingOf(0, 14), 81);
        due.is("no share", x.dispute(0, 1), Due.IMPOSSIBLE);
        due.is("no history by errors", x.count(11), 4);
        due.is("not proved", x.dispute(0, 0), 0);
        due.is("already", x.dispute(0, 0), Due.IMPOSSIBLE);
        due.is("already, wrong tenant", x.dispute(0, 2), Due.INVALID);
        x = withLoss();
        x.proof(0, 1);
        due.is("weight 3 of 5", x.dispute(0, 0), 0);
        x = withLoss();
        x.proof(0, 1);
        x.proof(0, 0);
        due.is("weight 5 of 5, half", x.dispute(0, 0), 40);
        x = withLoss();
        x.set(4, 0);
        due.is("no weight is needed", x.dispute(0, 0), 40);
        x = withLoss();
        x.thing(90, 100, 0, 10, 0);
        due.is("not looked at again", x.dispute(1, 0), Due.IMPOSSIBLE);
        x.look(1, 10, 5);
        due.is("a loss of 0", x.thingOf(1, 9), 0);
        due.is("it has no loss", x.dispute(1, 0), Due.IMPOSSIBLE);
    }

    private static void sharesLetDispute() {
        due.about("promise 7, shares");
        DepositProofs x = new DepositProofs();
        x.tenant(300, 0);
        x.tenant(200, 10);
        x.tenant(200, 9);
        x.tenant(200, 0);
        x.go(3, 4);
        x.thing(90, 100, -1, 10, 4);
        x.thing(90, 100, -1, 10, 4);
        x.thing(90, 100, 1, 10, 4);
        due.is("shared, not looked at", x.dispute(0, 0), Due.IMPOSSIBLE);
        x.look(0, 0, 10);
        x.look(1, 0, 4);
        x.look(2, 0, 10);
        due.is("came in the last month", x.dispute(0, 1), Due.IMPOSSIBLE);
        due.is("went in the first month", x.dispute(0, 3), Due.IMPOSSIBLE);
        due.is("one month", x.dispute(0, 2), 0);
        due.is("six months", x.dispute(0, 0), 0);
        due.is("no months for anybody", x.dispute(1, 0), Due.IMPOSSIBLE);
        due.is("an own thing needs no months", x.dispute(2, 1), 0);
        due.is("of another one", x.dispute(2, 0), Due.IMPOSSIBLE);
        due.is("set of disputes", x.thingOf(0, 12), 5);
        due.is("disputes", x.count(9), 3);
    }

    private static void tenantsAgree() {
        due.about("promise 8");
        DepositProofs x = new DepositProofs();
        due.is("without things and tenants", x.agree(0, 0), Due.INVALID);
        x = withLoss();
        due.is("not disputed", x.agree(0, 0), Due.IMPOSSIBLE);
        x.dispute(0, 0);
        due.is("thing -1", x.agree(-1, 0), Due.INVALID);
        due.is("thing 1", x.agree(1, 0), Due.INVALID);
        due.is("tenant -1", x.agree(0, -1), Due.INVALID);
        due.is("tenant 2", x.agree(0, 2), Due.INVALID);
        for (int far : Due.FAR) {
            due.is("thing far", x.agree(far, 0), Due.INVALID);
            due.is("tenant far", x.agree(0, far), Due.INVALID);
        }
        due.is("another one", x.agree(0, 1), Due.IMPOSSIBLE);
        due.is("still disputed", x.thingOf(0, 12), 1);
        due.is("agree(0, 0)", x.agree(0, 0), 81);
        due.is("again", x.agree(0, 0), Due.IMPOSSIBLE);
        due.is("dispute again", x.dispute(0, 0), 0);
        x = new DepositProofs();
        x.tenant(300, 0);
        x.tenant(200, 0);
        x.thing(90, 100, -1, 10, 0);
        x.look(0, 0, 5);
        x.dispute(0, 0);
        x.dispute(0, 1);
        due.is("one of two agrees", x.agree(0, 0), 0);
        due.is("the other disputes", x.thingOf(0, 12), 2);
        due.is("the second agrees", x.agree(0, 1), 81);
    }

    private static void partsAreDecided() {
        due.about("promise 9");
        DepositProofs x = new DepositProofs();
        due.is("without things", x.decide(0, 50), Due.INVALID);
        x = withLoss();
        due.is("nobody disputes", x.decide(0, 50), Due.IMPOSSIBLE);
        due.is("nobody disputes, wrong part", x.decide(0, 101), Due.INVALID);
        x.dispute(0, 0);
        due.is("thing -1", x.decide(-1, 50), Due.INVALID);
        due.is("thing 1", x.decide(1, 50), Due.INVALID);
        due.is("hundredths -1", x.decide(0, -1), Due.INVALID);
        due.is("hundredths 101", x.decide(0, 101), Due.INVALID);
        for (int far : Due.FAR) {
            due.is("thing far", x.decide(far, 50), Due.INVALID);
            due.is("hundredths far", x.decide(0, far), Due.INVALID);
        }
        due.is("half at first", x.thingOf(0, 13), 50);
        due.is("not proved", x.decide(0, 100), 0);
        x.proof(0, 3);
        x.proof(0, 2);
        due.is("all", x.thingOf(0, 14), 81);
        due.is("0", x.decide(0, 0), 0);
        due.is("1: 0.81", x.decide(0, 1), 0);
        due.is("2: 1.62", x.decide(0, 2), 1);
        due.is("99: 80.19", x.decide(0, 99), 80);
        due.is("33: 26.73", x.decide(0, 33), 26);
        due.is("agree", x.agree(0, 0), 81);
        due.is("it stays", x.thingOf(0, 13), 33);
        due.is("nobody disputes", x.decide(0, 40), Due.IMPOSSIBLE);
        due.is("it stays for the next dispute", x.dispute(0, 0), 26);
    }

    private static void disputesOutliveShares() {
        due.about("promises 7 to 9, without a share any more");
        DepositProofs x = new DepositProofs();
        x.tenant(300, 0);
        x.tenant(200, 0);
        x.thing(90, 100, -1, 10, 3);
        x.look(0, 0, 8);
        due.is("dispute", x.dispute(0, 0), 0);
        due.is("go", x.go(0, 2), 2);
        due.is("no months", x.shareOf(0, 0, 1), 0);
        due.is("it is disputed still", x.thingOf(0, 12), 1);
        due.is("kept", x.thingOf(0, 14), 0);
        due.is("decide", x.decide(0, 70), 0);
        due.is("agree", x.agree(0, 0), 81);
        due.is("it can't be disputed again", x.dispute(0, 0), Due.IMPOSSIBLE);
        x.dispute(0, 1);
        x.set(4, 0);
        due.is("go", x.go(1, 3), 3);
        due.is("borne by nobody", x.thingOf(0, 14), 0);
        due.is("decide", x.decide(0, 100), 0);
        due.is("agree", x.agree(0, 1), 0);
    }

    private static void settingsAreSet() {
        due.about("promise 10");
        DepositProofs x = new DepositProofs();
        int[] first = {2, 3, 2, 3, 5};
        int[] most = {20, 20, 20, 20, 80};
        for (int what = 0; what < 5; what++) {
            due.is("below", x.set(what, -1), Due.INVALID);
            due.is("above", x.set(what, most[what] + 1), Due.INVALID);
            for (int far : Due.FAR) {
                due.is("far", x.set(what, far), Due.INVALID);
            }
            due.is("as at first", x.count(20 + what), first[what]);
            due.is("the most", x.set(what, most[what]), first[what]);
            due.is("the least", x.set(what, 0), most[what]);
            due.is("another one", x.set(what, 1 + what), 0);
            due.is("the same one", x.set(what, 1 + what), 1 + what);
        }
        for (int what = 0; what < 5; what++) {
            due.is("each has its own", x.count(20 + what), 1 + what);
        }
        due.is("set(-1, 1)", x.set(-1, 1), Due.INVALID);
        due.is("set(5, 1)", x.set(5, 1), Due.INVALID);
        for (int far : Due.FAR) {
            due.is("set(far, 1)", x.set(far, 1), Due.INVALID);
        }
        x = withLoss();
        x.proof(0, 0);
        x.dispute(0, 0);
        due.is("2 of 5", x.thingOf(0, 14), 0);
        x.set(0, 5);
        due.is("5 of 5", x.thingOf(0, 14), 40);
        x.set(4, 6);
        due.is("5 of 6", x.thingOf(0, 14), 0);
        x.set(4, 0);
        due.is("nothing needed", x.thingOf(0, 14), 40);
        due.is("proved without need", x.count(10), 0);
    }
}
