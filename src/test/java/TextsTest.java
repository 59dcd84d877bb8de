/** Promises 22 to 25: type, clearText, fault, play. */
public final class TextsTest {
    private static final Due due = new Due();

    public static void main(String[] args) {
        typing();
        clearing();
        formFaults();
        rightForms();
        otherReasons();
        positions();
        unfinishedAtTheEnd();
        playing();
        playingIsOneChange();
        allCommands();
        due.end();
    }

    private static void typing() {
        due.about("promise 22");
        DepositProofs x = new DepositProofs();
        due.is("type(31)", x.type(31), Due.INVALID);
        due.is("type(127)", x.type(127), Due.INVALID);
        for (int far : Due.FAR) {
            due.is("type(far)", x.type(far), Due.INVALID);
        }
        due.is("type(32)", x.type(32), 1);
        due.is("type(126)", x.type(126), 2);
        for (int length = 3; length <= 80; length++) {
            due.is("type", x.type(length % 95 + 32), length);
        }
        due.is("an 81st", x.type('a'), Due.LIMIT);
        due.is("a wrong 81st", x.type(127), Due.INVALID);
        due.is("its length", x.count(12), 80);
        due.is("no change", x.count(11), 0);
    }

    private static void clearing() {
        due.about("promise 23");
        DepositProofs x = new DepositProofs();
        due.is("empty", x.clearText(), 0);
        Due.type(x, "t5,5;x");
        due.is("6", x.clearText(), 6);
        due.is("no length", x.count(12), 0);
        due.is("empty again", x.clearText(), 0);
        due.is("no fault", x.fault(0), Due.NONE);
        due.is("no change", x.count(11), 0);
        nothingStays(x);
        due.is("type", x.type('g'), 1);
        for (int i = 0; i < 100; i++) {
            x.type('a');
        }
        due.is("80", x.clearText(), 80);
        due.is("type", x.type('g'), 1);
    }

    /** Neither an emptied text nor its fault is met again. */
    private static void nothingStays(DepositProofs x) {
        Due.write(x, "x;");
        due.is("a fault", x.fault(1), 1);
        due.is("empty it", x.clearText(), 2);
        due.is("no fault", x.fault(1), Due.NONE);
        Due.write(x, "t5,55;");
        due.is("no fault", x.fault(1), Due.NONE);
        Due.write(x, "t5,55");
        due.is("its ';' is missing", x.fault(1), 1);
        Due.write(x, "t5,5");
        x.type(';');
        due.is("one tenant", x.play(), 1);
        due.is("who came in month 5", x.tenantOf(0, 1), 5);
        x.undo();
        x.clearText();
    }

    private static void formFaults() {
        due.about("promise 24, reason 1");
        String[] texts = {
            "t", "t5", "t5,", "t5,5", "t5,5,", "t5,5,5;", "t5;", "t,5;", "t5,;", "t;", ";", ",", "5",
            "x5,5;", "T5,5;", " t5,5;", "t 5,5;", "t5 ,5;", "t5, 5;", "t5,5 ;", "t-5,5;", "t+5,5;",
            "t00005,5;", "t5,00005;", "t12345,5;", "ts,5;", "t5,s;", "5,5;", "tt5,5;", "t5.5;",
            "t5;5;", "g5;", "g5,5,5;", "gs,5;", "g,5;", "o5,5;", "o5,5,5,5;", "os,5,5;", "o5,5,5",
            "p5;", "p5,5,5;", "ps,5;", "d5;", "d5,5,5;", "d5,s;", "v5;", "v5,5,5;", "v5,s;",
            "i5,5,s,5;", "i5,5,s,5,5,5;", "i5,5,s5,5,5;", "i5,5,5s,5,5;", "i5,5,ss,5,5;",
            "i5,5,-1,5,5;", "i5,5,,5,5;", "i5,5,S,5,5;", "is,5,5,5,5;", "i5,s,5,5,5;", "i5,5,s,s,5;",
            "i5,5,s,5,s;", "i5,5,s,5,5", "i5,5,s", "i5,5,s;5,5;", "i,5,s,5,5;", "a5,5;", "s0,5;",
            "s5,5;", "x5;", "s5;", "5;", "~0;", "t5/5;", "t5:,5;", "t:,5;", "t/,5;", "e5,5;", "n", "~", "G0,5;", "t5,5:", "u;",
        };
        for (String text : texts) {
            DepositProofs x = new DepositProofs();
            Due.type(x, text);
            due.is("position of " + text, x.fault(0), 0);
            due.is("reason of " + text, x.fault(1), 1);
            due.is("play of " + text, x.play(), Due.IMPOSSIBLE);
            due.is("no change by " + text, x.count(11), 0);
        }
    }

    private static void rightForms() {
        due.about("promise 24, no fault");
        String[] texts = {"", "t5,5;", "t0005,0005;", "t0000,0000;", "t9999,0240;", "i5,5,s,5,5;",
            "i0005,0005,s,0005,0005;", "t5,5;i5,5,0,5,5;", "t5,5;i5,5,0000,5,5;", "t5,5;g0,5;"};
        for (String text : texts) {
            DepositProofs x = new DepositProofs();
            Due.type(x, text);
            due.is("position of " + text, x.fault(0), Due.NONE);
            due.is("reason of " + text, x.fault(1), Due.NONE);
            due.is("what -1", x.fault(-1), Due.INVALID);
            due.is("what 2", x.fault(2), Due.INVALID);
            for (int far : Due.FAR) {
                due.is("what far", x.fault(far), Due.INVALID);
            }
            due.is("nothing is changed", x.count(0) + x.count(2) + x.count(11), 0);
        }
    }

    private static void otherReasons() {
        due.about("promise 24, reasons 2 and 3");
        String flat = "t300,9;t9,0;i90,100,0,10,9;i9,9,s,5,9;o0,0,9;";
        String[] invalid = {"t9999,241;", "t5,9999;", "g2,5;", "g0,241;", "i0,5,s,5,5;",
            "i1000,5,s,5,5;", "i5,0,s,5,5;", "i5,121,s,5,5;", "i5,5,2,5,5;", "i5,5,9999,5,5;",
            "i5,5,s,11,5;", "i5,5,s,5,241;", "o2,5,5;", "o0,11,5;", "o1,5,241;", "p2,0;", "p0,4;",
            "d2,0;", "d0,2;", "v2,50;", "v0,101;", "o0,11,9;", "v0,9999;"};
        String[] impossible = {"g0,8;", "g1,5;g1,6;", "o0,5,9;", "o1,5,8;", "p0,2;p0,2;", "d0,1;",
            "d0,0;d0,0;", "d1,0;", "v0,50;", "v1,0;", "t1,1;t1,1;t1,1;t1,1;t1,1;"};
        for (String text : invalid) {
            reason(flat, text, 2);
        }
        for (String text : impossible) {
            reason(flat, text, 3);
        }
        DepositProofs x = new DepositProofs();
        for (int thing = 0; thing < 12; thing++) {
            x.thing(5, 5, -1, 5, 5);
        }
        Due.type(x, "i5,5,s,5,5;");
        due.is("a thirteenth", x.fault(1), 3);
        Due.write(x, "i5,5,0,5,5;");
        due.is("a wrong thirteenth", x.fault(1), 2);
    }

    /** The last command of the text is the one with the fault. */
    private static void reason(String flat, String text, int want) {
        DepositProofs x = new DepositProofs();
        Due.type(x, flat);
        due.is("play of " + flat, x.play(), 5);
        Due.write(x, text);
        int start = text.lastIndexOf(';', text.length() - 2) + 1;
        String before = Due.picture(x);
        due.is("position of " + text, x.fault(0), start);
        due.is("reason of " + text, x.fault(1), want);
        due.is("play of " + text, x.play(), Due.IMPOSSIBLE);
        due.same("play of " + text, Due.picture(x), before);
    }

    private static void positions() {
        due.about("promise 24, positions");
        fault("t5,5;t5,5;x", 10, 1);
        fault("t5,5;;", 5, 1);
        fault("t5,5; t5,5;", 5, 1);
        fault("t5,5;t5,5", 5, 1);
        fault("t5,241;x", 0, 2);
        fault("t5,5;g0,4;x", 5, 3);
        fault("t5,5;g0,5;g0,241;", 10, 2);
        fault("g0,5;t5,5;", 0, 2);
        fault("t5,5;i5,5,1,5,5;", 5, 2);
        fault("i5,5,s,5,5;o0,5,4;o0,5,5;", 11, 3);
        fault("t1,1;t1,1;t1,1;t1,1;t1,1;t1,1;t1,1;t1,1;", 30, 3);
        fault("t1,1;t1,1;t1,1;t1,1;t1,1;t1,1;t1,241;", 30, 2);
        fault("i9,9,s,9,9;p0,0;p0,1;p0,2;p0,3;p0,0;", 31, 3);
        DepositProofs x = new DepositProofs();
        x.tenant(9, 9);
        Due.type(x, "g0,9;");
        due.is("possible", x.fault(1), Due.NONE);
        x.go(0, 9);
        due.is("possible no more", x.fault(1), 3);
        x.undo();
        due.is("possible again", x.fault(1), Due.NONE);
    }

    /** A last command that the 80th character leaves unfinished. */
    private static void unfinishedAtTheEnd() {
        String[] ends = {"t", "t5", "t5,", "t5,5", "t5,555", "t5,5555", "t5555", "i5,5,", "i5,5,s"};
        for (String end : ends) {
            String rest = "p0,0;p0,1;p0,2;p0,3;t1,1;t1,1;t1,1;t1,1;t1,1;g0,1;t01,1;";
            String thing = thingOfLength(80 - rest.length() - end.length());
            DepositProofs x = new DepositProofs();
            Due.type(x, thing + rest + end);
            due.is("length with " + end, x.count(12), 80);
            due.is("position of " + end, x.fault(0), 80 - end.length());
            due.is("reason of " + end, x.fault(1), 1);
            due.is("play with " + end, x.play(), Due.IMPOSSIBLE);
        }
    }

    /** A shared thing as a command of 11 to 23 characters, by 0 ahead of its numbers. */
    private static String thingOfLength(int length) {
        String[] numbers = {"1", "1", "0", "0"};
        for (int i = 0; i < 4; i++) {
            int zeros = Math.max(0, Math.min(3, length - 11 - 3 * i));
            numbers[i] = "000".substring(0, zeros) + numbers[i];
        }
        return "i" + numbers[0] + "," + numbers[1] + ",s," + numbers[2] + "," + numbers[3] + ";";
    }

    private static void fault(String text, int position, int reason) {
        DepositProofs x = new DepositProofs();
        Due.type(x, text);
        due.is("position of " + text, x.fault(0), position);
        due.is("reason of " + text, x.fault(1), reason);
        due.is("what 2", x.fault(2), Due.INVALID);
        due.is("play of " + text, x.play(), Due.IMPOSSIBLE);
        due.is("nothing is changed", x.count(0) + x.count(2) + x.count(11), 0);
        due.is("the text stays", x.count(12), text.length());
    }

    private static void playing() {
        due.about("promise 25");
        DepositProofs x = new DepositProofs();
        due.is("no commands", x.play(), 0);
        due.is("one change all the same", x.count(11), 1);
        due.is("undo", x.undo(), 0);
        Due.type(x, "t300,0;t200,6;i500,60,s,10,0;o0,4,24;");
        due.is("play", x.play(), 4);
        due.is("the text stays", x.count(12), 37);
        due.is("one change", x.count(11), 1);
        due.is("share of 0", x.shareOf(0, 0, 0), 58);
        due.is("share of 1", x.shareOf(0, 1, 0), 42);
        due.is("not twice", x.play(), Due.IMPOSSIBLE);
        due.is("the thing was looked at", x.fault(0), 29);
        due.is("its reason", x.fault(1), 3);
        due.is("no tenants by that", x.count(0), 2);
        due.is("undo", x.undo(), 0);
        due.is("no tenants", x.count(0), 0);
        due.is("no things", x.count(2), 0);
        due.is("play again", x.play(), 4);
        StringBuilder text = new StringBuilder();
        for (int tenant = 0; tenant < 4; tenant++) {
            text.append("t1,1;");
        }
        for (int thing = 0; thing < 4; thing++) {
            text.append("i1,1,s,0,").append(thing).append(";");
        }
        text.append("p1,0;p2,0;p3,0;");
        due.is("length", text.length(), 79);
        Due.write(x, text.toString());
        due.is("a long text", x.play(), 11);
        x.type(';');
        due.is("80 characters", x.count(12), 80);
        due.is("tenants", x.count(0), 6);
        x.undo();
        due.is("a last one", x.fault(0), 79);
        Due.write(x, "p0,0;p0,1;p0,2;p0,3;p1,0;p1,1;p1,2;p1,3;p2,0;p2,1;p2,2;p2,3;p3,0;p3,1;p3,2;p3,3;");
        due.is("thing 1 is missing", x.fault(0), 20);
        for (int thing = 1; thing < 4; thing++) {
            x.thing(1, 1, -1, 0, 0);
        }
        due.is("16 commands of 80 characters", x.play(), 16);
        due.is("proofs of the last", x.thingOf(3, 10), 15);
    }

    private static void playingIsOneChange() {
        due.about("promise 25, the history");
        DepositProofs x = new DepositProofs();
        x.tenant(1, 1);
        x.tenant(2, 2);
        Due.type(x, "t3,3;t4,4;");
        due.is("play", x.play(), 2);
        due.is("states", x.count(11), 3);
        x.clearText();
        due.is("nothing", x.play(), 0);
        due.is("states", x.count(11), 4);
        due.is("nothing again", x.play(), 0);
        due.is("states", x.count(11), 4);
        due.is("undo", x.undo(), 3);
        due.is("undo", x.undo(), 2);
        due.is("tenants", x.count(0), 4);
        due.is("undo", x.undo(), 1);
        due.is("tenants", x.count(0), 2);
        due.is("undo", x.undo(), 0);
        due.is("tenants", x.count(0), 1);
        due.is("undo", x.undo(), Due.IMPOSSIBLE);
    }

    private static void allCommands() {
        due.about("promise 25, all commands");
        DepositProofs x = new DepositProofs();
        Due.type(x, "t300,0;t0200,006;i500,60,s,10,0;i80,20,1,10,6;o0,4,24;o1,1,7;");
        due.is("play", x.play(), 6);
        Due.write(x, "d0,1;p0,1;p0,3;v0,80;g1,12;");
        due.is("play", x.play(), 5);
        DepositProofs y = new DepositProofs();
        y.tenant(300, 0);
        y.tenant(200, 6);
        y.thing(500, 60, -1, 10, 0);
        y.thing(80, 20, 1, 10, 6);
        y.look(0, 4, 24);
        y.look(1, 1, 7);
        y.dispute(0, 1);
        y.proof(0, 1);
        y.proof(0, 3);
        y.decide(0, 80);
        y.go(1, 12);
        for (int tenant = 0; tenant < 2; tenant++) {
            for (int what = 0; what < 9; what++) {
                due.is("tenantOf(" + tenant + ", " + what + ")", x.tenantOf(tenant, what),
                        y.tenantOf(tenant, what));
            }
        }
        for (int thing = 0; thing < 2; thing++) {
            for (int what = 0; what < 15; what++) {
                due.is("thingOf(" + thing + ", " + what + ")", x.thingOf(thing, what),
                        y.thingOf(thing, what));
            }
        }
        due.is("month of going", x.tenantOf(1, 2), 12);
        due.is("decided", x.thingOf(0, 14), 80);
        due.is("share of 1", x.shareOf(0, 1, 0), 16);
    }
}
