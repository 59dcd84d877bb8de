import java.util.function.Consumer;
import java.util.function.IntUnaryOperator;
import java.util.function.ToIntFunction;

/** Counts and prints the calls whose answer is not the one that is due. */
final class Due {
    static final int INVALID = -1;
    static final int IMPOSSIBLE = -2;
    static final int LIMIT = -3;
    static final int NONE = -4;

    /** Arguments that are out of every range. */
    static final int[] FAR = {Integer.MIN_VALUE, -1000, 10000, Integer.MAX_VALUE};

    /** Distances by which a number out of a range wraps around to one inside, if it is cut short. */
    private static final int[] WRAPS = {32, 64, 256, 65536, 1 << 24, Integer.MIN_VALUE};

    private String part = "";
    private int wrong;
    private int calls;

    /** Names what the following calls are about: a promise, or a sentence of the document. */
    void about(String name) {
        part = name;
    }

    void is(String call, long got, long want) {
        calls++;
        if (got != want) {
            wrong++;
            System.out.println(part + ": " + call + " answered " + got + ", due is " + want);
        }
    }

    void end() {
        System.out.println(calls + " answers, " + wrong + " of them not as due");
        if (wrong != 0 || calls == 0) {
            System.exit(1);
        }
    }

    /**
     * An argument's range: the numbers at its ends are taken, and those outside it are refused, also
     * where they would wrap around to one inside. Each call is given its own object by the caller.
     */
    void range(String argument, int least, int most, IntUnaryOperator call) {
        for (int number : new int[] {least, Math.min(least + 1, most), Math.max(least, most - 1), most}) {
            is(argument + " " + number + " taken", call.applyAsInt(number) >= 0 ? 1 : 0, 1);
        }
        int[] out = {least - 1, most + 1, least - 2, most + 2, Integer.MIN_VALUE, Integer.MAX_VALUE};
        for (int number : out) {
            is(argument + " " + number, call.applyAsInt(number), INVALID);
        }
        for (int wrap : WRAPS) {
            for (int number : new int[] {least + wrap, least - wrap, most + wrap, most - wrap}) {
                if (number < least || number > most) {
                    is(argument + " " + number, call.applyAsInt(number), INVALID);
                }
            }
        }
    }

    /** The object that a run of calls leaves. */
    static DepositProofs after(Consumer<DepositProofs> run) {
        DepositProofs x = new DepositProofs();
        run.accept(x);
        return x;
    }

    /** Types a whole text. */
    static void type(DepositProofs x, String text) {
        for (int i = 0; i < text.length(); i++) {
            x.type(text.charAt(i));
        }
    }

    /** Replaces the text by another one. */
    static void write(DepositProofs x, String text) {
        x.clearText();
        type(x, text);
    }

    /**
     * All answers about the state, the history's length, and the text's length and fault. They are
     * some 300 calls at most, as long as there are not both more than three tenants and six things.
     */
    static String picture(DepositProofs x) {
        StringBuilder all = new StringBuilder();
        for (int what = 0; what < 25; what++) {
            all.append(x.count(what)).append(' ');
        }
        int tenants = x.count(0);
        for (int tenant = 0; tenant < tenants; tenant++) {
            for (int what = 0; what < 9; what++) {
                all.append(x.tenantOf(tenant, what)).append(' ');
            }
            all.append(x.wouldSave(tenant)).append(' ');
        }
        int things = x.count(2);
        for (int thing = 0; thing < things; thing++) {
            for (int what = 0; what < 15; what++) {
                all.append(x.thingOf(thing, what)).append(' ');
            }
            for (int tenant = 0; tenant < tenants; tenant++) {
                all.append(x.shareOf(thing, tenant, 0)).append(' ');
                all.append(x.shareOf(thing, tenant, 1)).append(' ');
            }
            for (int order = 0; order < 3; order++) {
                all.append(x.orderAt(order, thing)).append(' ');
            }
        }
        for (int what = 0; what < 3; what++) {
            all.append(x.bestProof(what)).append(' ');
        }
        all.append(x.keptBits()).append(' ').append(x.careBits()).append(' ');
        all.append(x.fault(0)).append(' ').append(x.fault(1));
        return all.toString();
    }

    /** A picture is the one that it should be. */
    void same(String call, String got, String want) {
        calls++;
        if (!got.equals(want)) {
            wrong++;
            System.out.println(part + ": " + call + " changed something");
            System.out.println("  before: " + want);
            System.out.println("  after:  " + got);
        }
    }

    /**
     * A call that answers an error, on what a run leaves, changes nothing: neither the state and the
     * text nor any state of the history. Each picture is taken of an object of its own, as an object
     * is good for 512 calls.
     */
    void refused(String name, Consumer<DepositProofs> run, ToIntFunction<DepositProofs> call, int want) {
        for (int steps = 0; steps <= 4; steps++) {
            DepositProofs x = after(run);
            DepositProofs y = after(run);
            is(name, call.applyAsInt(y), want);
            for (int i = 0; i < steps; i++) {
                is(name + ", undo", y.undo(), x.undo());
            }
            same(name + ", " + steps + " steps back", picture(y), picture(x));
        }
    }
}
