import java.lang.management.ManagementFactory;

/** Calls make no objects: all rows are made by the constructor and used again. */
public final class RoomTest {
    private static final int ROUNDS = 2000;
    /** What the measuring itself may take; one small object a round would be more than this. */
    private static final long FREE_BYTES = 16 * ROUNDS - 1;

    public static void main(String[] args) {
        com.sun.management.ThreadMXBean threads =
                (com.sun.management.ThreadMXBean) ManagementFactory.getThreadMXBean();
        // One object a round, as an object is good for 512 calls.
        DepositProofs[] rounds = new DepositProofs[ROUNDS];
        for (int round = 0; round < ROUNDS; round++) {
            rounds[round] = new DepositProofs();
        }
        int[] text = "t5,5;i90,100,s,10,5;o0,0,9;d0,0;p0,1;v0,80;g0,9;".chars().toArray();
        long thread = Thread.currentThread().getId();
        callAll(new DepositProofs(), text);
        long before = threads.getThreadAllocatedBytes(thread);
        for (int round = 0; round < ROUNDS; round++) {
            callAll(rounds[round], text);
        }
        long bytes = threads.getThreadAllocatedBytes(thread) - before;
        System.out.println(ROUNDS + " rounds of all calls took " + bytes + " bytes");
        if (bytes > FREE_BYTES) {
            System.exit(1);
        }
    }

    private static void callAll(DepositProofs x, int[] text) {
        x.tenant(300, 0);
        x.thing(90, 100, -1, 10, 0);
        x.look(0, 0, 5);
        x.dispute(0, 0);
        x.proof(0, 1);
        x.decide(0, 70);
        x.agree(0, 0);
        x.set(4, 3);
        x.go(1, 9);
        for (int character : text) {
            x.type(character);
        }
        x.fault(0);
        x.play();
        x.clearText();
        for (int what = 0; what < 25; what++) {
            x.count(what);
            x.tenantOf(0, what);
            x.thingOf(0, what);
            x.shareOf(0, 0, what);
            x.orderAt(what, 0);
            x.bestProof(what);
            x.wouldProve(0, what);
        }
        x.wouldSave(0);
        x.keptBits();
        x.careBits();
        x.undo();
    }
}
