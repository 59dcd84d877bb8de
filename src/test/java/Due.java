/** Counts and prints the calls whose answer is not the one that is due. */
final class Due {
    static final int INVALID = -1;
    static final int IMPOSSIBLE = -2;
    static final int LIMIT = -3;
    static final int NONE = -4;

    /** Arguments that are out of every range. */
    static final int[] FAR = {Integer.MIN_VALUE, -1000, 10000, Integer.MAX_VALUE};

    private String part = "";
    private int wrong;
    private int calls;

    /** Names what the following calls are about, such as a promise. */
    void about(String name) {
        part = name;
    }

    void is(String call, long got, long want) {
        calls++;
        if (got != want) {
            wrong++;
            System.out.println(part + ": " + call + " answered " + got + ", due is " + want);
        }
    }

    void end() {
        System.out.println(calls + " answers, " + wrong + " of them not as due");
        if (wrong != 0 || calls == 0) {
            System.exit(1);
        }
    }

    /** Types a whole text. */
    static void type(DepositProofs x, String text) {
        for (int i = 0; i < text.length(); i++) {
            x.type(text.charAt(i));
        }
    }

    /** Replaces the text by another one. */
    static void write(DepositProofs x, String text) {
        x.clearText();
        type(x, text);
    }

    /** All answers about the state, the history's length, and the text's length and fault. */
    static String picture(DepositProofs x) {
        StringBuilder all = new StringBuilder();
        for (int what = 0; what < 25; what++) {
            all.append(x.count(what)).append(' ');
        }
        for (int tenant = 0; tenant < 6; tenant++) {
            for (int what = 0; what < 9; what++) {
                all.append(x.tenantOf(tenant, what)).append(' ');
            }
            all.append(x.wouldSave(tenant)).append(' ');
        }
        for (int thing = 0; thing < 12; thing++) {
            for (int what = 0; what < 15; what++) {
                all.append(x.thingOf(thing, what)).append(' ');
            }
            for (int tenant = 0; tenant < 6; tenant++) {
                all.append(x.shareOf(thing, tenant, 0)).append(' ');
                all.append(x.shareOf(thing, tenant, 1)).append(' ');
            }
            for (int kind = 0; kind < 4; kind++) {
                all.append(x.wouldProve(thing, kind)).append(' ');
            }
            for (int order = 0; order < 3; order++) {
                all.append(x.orderAt(order, thing)).append(' ');
            }
        }
        for (int what = 0; what < 3; what++) {
            all.append(x.bestProof(what)).append(' ');
        }
        all.append(x.keptBits()).append(' ').append(x.careBits()).append(' ');
        all.append(x.fault(0)).append(' ').append(x.fault(1));
        return all.toString();
    }

    /** Says that a picture is, or is not, the one of before. */
    void same(String call, String got, String want, boolean wanted) {
        calls++;
        if (got.equals(want) != wanted) {
            wrong++;
            System.out.println(part + ": " + call + (wanted ? " changed something" : " changed nothing"));
            System.out.println("  before: " + want);
            System.out.println("  after:  " + got);
        }
    }
}
