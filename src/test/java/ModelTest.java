/** All promises: long runs of calls, each answered by the program as by the plain model. */
public final class ModelTest {
    private static final int RUNS = 1500;
    /** An object is good for 512 calls; the longest step, a text of four commands, takes some 96. */
    private static final int CALLS = 512;
    private static final int MOST_OF_A_STEP = 100;
    private static final String[] LETTERS = {"t", "g", "i", "o", "p", "d", "v"};

    private final Due due = new Due();
    private long seed = 20261118;
    private DepositProofs x;
    private PlainModel y;
    private int calls;

    public static void main(String[] args) {
        new ModelTest().runAll();
    }

    private void runAll() {
        for (int run = 0; run < RUNS; run++) {
            x = new DepositProofs();
            y = new PlainModel();
            calls = 0;
            // Some runs have short times and few tenants, so that shares are many and small.
            int span = run % 3 == 0 ? 240 : 6 + run % 40;
            due.about("run " + run);
            if (run % 4 != 0) {
                furnish(span);
            }
            while (calls <= CALLS - MOST_OF_A_STEP) {
                step(span);
            }
        }
        due.end();
    }

    /** The next number from 0 to most; the same ones in each run of the test. */
    private int any(int most) {
        seed = seed * 6364136223846793005L + 1442695040888963407L;
        return (int) ((seed >>> 33) % (most + 1));
    }

    /** Mostly a number of the range, at times one at its edge or out of it. */
    private int in(int least, int most) {
        switch (any(40)) {
            case 0: return least - 1;
            case 1: return most + 1;
            case 2: return least;
            case 3: return most;
            case 4: return Due.FAR[any(3)];
            default: return least + any(most - least);
        }
    }

    private int person() {
        return in(0, Math.max(0, y.count(0) - 1));
    }

    private int item() {
        return in(0, Math.max(0, y.count(2) - 1));
    }

    private void furnish(int span) {
        for (int i = any(5) + 1; i > 0; i--) {
            change('t', any(3) == 0 ? any(200) : in(0, 9999), any(span / 2));
        }
        for (int i = any(8) + 2; i > 0; i--) {
            thing(span);
        }
        for (int i = 0; i < 12; i++) {
            change('o', i, any(5), span / 2 + any(span / 2));
        }
    }

    private void thing(int span) {
        int owner = any(2) == 0 ? any(5) : -1;
        int value = any(2) == 0 ? 1 + any(30) : in(1, 999);
        change('i', value, any(4) == 0 ? in(1, 120) : 40 + any(80), owner, any(3) == 0 ? in(0, 10) : 10,
                any(3) == 0 ? in(0, 240) : any(span / 2));
    }

    private void step(int span) {
        switch (any(26)) {
            case 0: change('t', in(0, 9999), any(1) == 0 ? in(0, 240) : any(span)); break;
            case 1: change('g', person(), any(1) == 0 ? in(0, 240) : any(span)); break;
            case 2: thing(span); break;
            case 3: change('o', item(), in(0, 10), any(1) == 0 ? in(0, 240) : any(span)); break;
            case 4: change('p', item(), in(0, 3)); break;
            case 5: case 6: case 7: change('d', item(), person()); break;
            case 8: change('a', item(), person()); break;
            case 9: case 10: change('v', item(), in(0, 100)); break;
            case 11: setting(); break;
            case 12: if (any(1) == 0) { is("undo()", x.undo(), y.undo()); } break;
            case 13: case 14: text(span); break;
            case 15: is("play()", x.play(), y.play()); break;
            default: ask(); break;
        }
    }

    private void setting() {
        int what = in(0, 4);
        change('=', what, what == 4 ? any(1) == 0 ? in(0, 80) : any(8) : in(0, 20));
    }

    private void is(String call, int got, int want) {
        calls++;
        due.is("call " + calls + ", " + call, got, want);
    }

    private void change(char letter, int... n) {
        int want = y.change(letter, n);
        int got;
        switch (letter) {
            case 't': got = x.tenant(n[0], n[1]); break;
            case 'g': got = x.go(n[0], n[1]); break;
            case 'i': got = x.thing(n[0], n[1], n[2], n[3], n[4]); break;
            case 'o': got = x.look(n[0], n[1], n[2]); break;
            case 'p': got = x.proof(n[0], n[1]); break;
            case 'd': got = x.dispute(n[0], n[1]); break;
            case 'a': got = x.agree(n[0], n[1]); break;
            case 'v': got = x.decide(n[0], n[1]); break;
            default: got = x.set(n[0], n[1]); break;
        }
        is(letter + java.util.Arrays.toString(n), got, want);
    }

    private void ask() {
        int person = person();
        int item = item();
        int what;
        switch (any(11)) {
            case 0: what = in(0, 8); is("tenantOf", x.tenantOf(person, what), y.tenantOf(person, what)); break;
            case 1: what = in(0, 14); is("thingOf", x.thingOf(item, what), y.thingOf(item, what)); break;
            case 2: what = in(0, 1); is("shareOf", x.shareOf(item, person, what), y.shareOf(item, person, what)); break;
            case 3: what = in(0, 2); is("orderAt", x.orderAt(what, item), y.orderAt(what, item)); break;
            case 4: what = in(0, 24); is("count " + what, x.count(what), y.count(what)); break;
            case 5: what = in(0, 3); is("wouldProve", x.wouldProve(item, what), y.wouldProve(item, what)); break;
            case 6: what = in(0, 2); is("bestProof", x.bestProof(what), y.bestProof(what)); break;
            case 7: is("wouldSave", x.wouldSave(person), y.wouldSave(person)); break;
            case 8: is("keptBits", x.keptBits(), y.keptBits()); break;
            case 9: is("careBits", x.careBits(), y.careBits()); break;
            case 10: what = in(0, 1); is("fault", x.fault(what), y.fault(what)); break;
            default: all(); break;
        }
    }

    /** Now and then all sums at once. */
    private void all() {
        for (int what = 0; what < 13; what++) {
            is("count " + what, x.count(what), y.count(what));
        }
        for (int person = 0; person < y.count(0); person++) {
            is("borne", x.tenantOf(person, 3), y.tenantOf(person, 3));
            is("saved", x.wouldSave(person), y.wouldSave(person));
        }
    }

    private void text(int span) {
        if (any(2) == 0) {
            is("clearText()", x.clearText(), y.clearText());
        }
        StringBuilder text = new StringBuilder();
        for (int commands = any(3); commands >= 0; commands--) {
            command(text, span);
        }
        if (any(5) == 0) {
            text.setCharAt(any(text.length() - 1), "stgiopdv0123456789,;,; x~".charAt(any(24)));
        }
        for (int i = 0; i < text.length(); i++) {
            is("type", x.type(text.charAt(i)), y.type(text.charAt(i)));
        }
        if (any(9) == 0) {
            int character = in(32, 126);
            is("type " + character, x.type(character), y.type(character));
        }
        is("fault(0)", x.fault(0), y.fault(0));
        is("fault(1)", x.fault(1), y.fault(1));
    }

    private void command(StringBuilder text, int span) {
        String letter = LETTERS[any(6)];
        int item = any(Math.max(0, y.count(2)));
        int person = any(Math.max(0, y.count(0)));
        text.append(letter);
        switch (letter) {
            case "t": numbers(text, any(9999), any(span)); break;
            case "g": numbers(text, person, any(span)); break;
            case "o": numbers(text, item, any(10), any(span)); break;
            case "p": numbers(text, item, any(4)); break;
            case "d": numbers(text, item, person); break;
            case "v": numbers(text, item, any(101)); break;
            default:
                numbers(text, 1 + any(500), 1 + any(119));
                text.setCharAt(text.length() - 1, ',');
                text.append(any(1) == 0 ? "s," : person + ",");
                numbers(text, any(10), any(span));
                break;
        }
    }

    private void numbers(StringBuilder text, int... numbers) {
        for (int i = 0; i < numbers.length; i++) {
            if (any(9) == 0) {
                text.append('0');
            }
            text.append(numbers[i]).append(i + 1 < numbers.length ? ',' : ';');
        }
    }
}
