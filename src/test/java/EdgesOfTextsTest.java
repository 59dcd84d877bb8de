/** Promises 21 to 25: each sentence that names a boundary case has a test of its own here. */
public final class EdgesOfTextsTest {
    private static final Due due = new Due();

    public static void main(String[] args) {
        undoLatest();
        undoRemoved();
        undoNumber();
        undoEmpty();
        typeCharacter();
        typeLength();
        typeLimit();
        clearTextEmpties();
        clearTextLength();
        faultWhat();
        faultPosition();
        faultReason();
        faultNone();
        faultByTheState();
        playAll();
        playTextStays();
        playOneChange();
        playNoCommands();
        playNumber();
        playFault();
        due.end();
    }

    private static DepositProofs typed(String text) {
        return Due.after(x -> Due.type(x, text));
    }

    private static void undoLatest() {
        due.about("21: restores the latest state of the history");
        DepositProofs x = new DepositProofs();
        for (int value = 11; value <= 16; value++) {
            x.set(0, value);
        }
        for (int value = 15; value >= 12; value--) {
            x.undo();
            due.is("setting", x.count(20), value);
        }
        x.undo();
        due.is("the earlier ones were dropped", x.count(20), 12);
    }

    private static void undoRemoved() {
        due.about("21: which is removed from it");
        DepositProofs x = Due.after(y -> y.set(0, 11));
        x.set(0, 12);
        due.is("states", x.count(11), 2);
        x.undo();
        due.is("one less", x.count(11), 1);
        x.set(0, 13);
        due.is("one more again", x.count(11), 2);
        x.undo();
        due.is("the state before the second change", x.count(20), 11);
        x.undo();
        due.is("the first state", x.count(20), 2);
        due.is("none", x.count(11), 0);
    }

    private static void undoNumber() {
        due.about("21: returns the number of states that are left in the history");
        for (int changes = 1; changes <= 6; changes++) {
            DepositProofs x = new DepositProofs();
            for (int i = 0; i < changes; i++) {
                x.tenant(5, 5);
            }
            for (int left = Math.min(4, changes) - 1; left >= 0; left--) {
                due.is("undo of " + changes, x.undo(), left);
            }
            due.is("tenants", x.count(0), Math.max(0, changes - 4));
        }
    }

    private static void undoEmpty() {
        due.about("21: NOT_POSSIBLE if it is empty");
        DepositProofs x = new DepositProofs();
        due.is("a new object", x.undo(), Due.IMPOSSIBLE);
        x.tenant(10000, 0);
        due.is("after an error", x.undo(), Due.IMPOSSIBLE);
        x.type('x');
        due.is("after a character", x.undo(), Due.IMPOSSIBLE);
        x.tenant(5, 5);
        due.is("after a change", x.undo(), 0);
        due.is("after its undo", x.undo(), Due.IMPOSSIBLE);
    }

    private static void typeCharacter() {
        due.about("22: character: 32 to 126");
        due.range("character", 32, 126, character -> new DepositProofs().type(character));
        due.is("0", new DepositProofs().type(0), Due.INVALID);
        due.is("10", new DepositProofs().type(10), Due.INVALID);
    }

    private static void typeLength() {
        due.about("22: returns the length of the text");
        DepositProofs x = new DepositProofs();
        due.is("the first", x.type('a'), 1);
        x.type(31);
        due.is("the second, after an error", x.type('a'), 2);
        x.clearText();
        for (int length = 1; length <= 80; length++) {
            due.is("after clearing", x.type(31 + length), length);
        }
    }

    private static void typeLimit() {
        due.about("22: LIMIT_REACHED if it has 80 characters");
        DepositProofs x = typed("x".repeat(79));
        due.is("the 80th", x.type('x'), 80);
        due.is("the 81st", x.type('x'), Due.LIMIT);
        due.is("a space", x.type(' '), Due.LIMIT);
        due.is("out of range", x.type(31), Due.INVALID);
        x.clearText();
        due.is("after clearing", x.type('x'), 1);
    }

    private static void clearTextEmpties() {
        due.about("23: empties the text");
        DepositProofs x = typed("t5,5;x");
        x.clearText();
        due.is("its length", x.count(12), 0);
        due.is("no fault", x.fault(0), Due.NONE);
        due.is("no commands", x.play(), 0);
        due.is("no tenant", x.count(0), 0);
        for (String text : new String[] {"t", "t5", "t5,", "t5,5"}) {
            Due.write(x, text);
            due.is("nothing is met of the old one after " + text, x.fault(1), 1);
        }
    }

    private static void clearTextLength() {
        due.about("23: returns the length it had");
        due.is("empty", new DepositProofs().clearText(), 0);
        due.is("1", typed("x").clearText(), 1);
        due.is("80", typed("x".repeat(80)).clearText(), 80);
        due.is("80, with more refused", typed("x".repeat(90)).clearText(), 80);
        DepositProofs x = typed("xyz");
        x.clearText();
        due.is("empty again", x.clearText(), 0);
    }

    private static void faultWhat() {
        due.about("24: what: 0: its position; 1: its reason");
        due.range("what", 0, 1, what -> typed("t5,5;x").fault(what));
        due.is("what 2 without a fault", typed("t5,5;").fault(2), Due.INVALID);
        due.is("what -1 without a fault", typed("t5,5;").fault(-1), Due.INVALID);
        due.is("what 2 of an empty text", new DepositProofs().fault(2), Due.INVALID);
    }

    private static void faultPosition() {
        due.about("24: 0: its position");
        due.is("the first character", typed("x").fault(0), 0);
        due.is("the second command", typed("t5,5;x").fault(0), 5);
        due.is("the last command of 80 characters", typed("t005,0005;".repeat(5) + "i0001,01,s,00,0000;"
                + "p00,00;000;").fault(0), 76);
        due.is("a sixth and a seventh tenant", typed("t5,5;".repeat(7)).fault(0), 30);
        StringBuilder text = new StringBuilder("i5,5,s,5,5;i1,1,s,0,0;");
        for (int kind = 0; kind < 8; kind++) {
            text.append("p").append(kind / 4).append(",").append(kind % 4).append(";");
        }
        due.is("a character alone at the end", typed(text + "t05,5;t5,05;t5,5;x").fault(0), 79);
        due.is("its reason", typed(text + "t05,5;t5,05;t5,5;x").fault(1), 1);
    }

    private static void faultReason() {
        due.about("24: 1: its reason");
        due.is("not of the form", typed("t5,5").fault(1), 1);
        due.is("INVALID_ARGUMENT", typed("t5,241;").fault(1), 2);
        due.is("LIMIT_REACHED", typed("t5,5;".repeat(7)).fault(1), 3);
        due.is("NOT_POSSIBLE", typed("t5,5;g0,4;").fault(1), 3);
    }

    private static void faultNone() {
        due.about("24: NOT_FOUND if the text has no fault (also if it is empty)");
        for (int what = 0; what < 2; what++) {
            due.is("empty", new DepositProofs().fault(what), Due.NONE);
            due.is("a command", typed("t5,5;").fault(what), Due.NONE);
            due.is("six commands", typed("t5,5;".repeat(6)).fault(what), Due.NONE);
            DepositProofs x = typed("x");
            due.is("a fault", x.fault(what), what);
            x.clearText();
            due.is("emptied", x.fault(what), Due.NONE);
        }
        DepositProofs x = typed("p0,0;p0,1;p0,2;p0,3;p1,0;p1,1;p1,2;p1,3;"
                + "p2,0;p2,1;p2,2;p2,3;p3,0;p3,1;p3,2;p3,3;");
        for (int thing = 0; thing < 4; thing++) {
            x.thing(5, 5, -1, 5, 5);
        }
        due.is("80 characters", x.count(12), 80);
        due.is("all of them possible", x.fault(0), Due.NONE);
    }

    private static void faultByTheState() {
        due.about("24: the fault is told of the state as it is");
        DepositProofs x = typed("g0,5;");
        due.is("no tenant", x.fault(1), 2);
        x.tenant(5, 6);
        due.is("came later", x.fault(1), 3);
        x.undo();
        x.tenant(5, 5);
        due.is("none", x.fault(1), Due.NONE);
        due.is("nothing is done", x.tenantOf(0, 2), Due.NONE);
        x.go(0, 5);
        due.is("gone", x.fault(1), 3);
    }

    private static void playAll() {
        due.about("25: does all commands of the text");
        DepositProofs x = typed("t300,0;t200,6;i500,60,s,10,0;o0,4,24;d0,1;p0,1;p0,3;v0,80;g1,12;");
        due.is("play", x.play(), 9);
        int[][] tenants = {{300, 0, Due.NONE, 64, 64, 236, 0, 1, 0}, {200, 6, 12, 16, 16, 184, 0, 1, 1}};
        for (int tenant = 0; tenant < 2; tenant++) {
            for (int what = 0; what < 9; what++) {
                due.is("tenantOf(" + tenant + ", " + what + ")", x.tenantOf(tenant, what),
                        tenants[tenant][what]);
            }
        }
        int[] thing = {500, 60, Due.NONE, 10, 0, 4, 24, 24, 6, 100, 10, 6, 2, 80, 80};
        for (int what = 0; what < 15; what++) {
            due.is("thingOf(0, " + what + ")", x.thingOf(0, what), thing[what]);
        }
    }

    private static void playTextStays() {
        due.about("25: which stays");
        DepositProofs x = typed("t5,5;");
        x.play();
        due.is("its length", x.count(12), 5);
        due.is("once more", x.play(), 1);
        due.is("tenants", x.count(0), 2);
        x.type('x');
        due.is("a play with a fault", x.play(), Due.IMPOSSIBLE);
        due.is("it stays", x.clearText(), 6);
    }

    private static void playOneChange() {
        due.about("25: they are one change");
        DepositProofs x = typed("t1,1;t2,2;t3,3;t4,4;t5,5;t6,6;");
        x.set(0, 7);
        due.is("play", x.play(), 6);
        due.is("states", x.count(11), 2);
        due.is("undo", x.undo(), 1);
        due.is("tenants", x.count(0), 0);
        due.is("the setting of before", x.count(20), 7);
        for (int i = 0; i < 4; i++) {
            x.set(1, i);
        }
        due.is("play with a full history", x.play(), 6);
        due.is("states", x.count(11), 4);
        due.is("undo", x.undo(), 3);
        due.is("tenants", x.count(0), 0);
    }

    private static void playNoCommands() {
        due.about("25: also if there are none");
        DepositProofs x = new DepositProofs();
        due.is("play", x.play(), 0);
        due.is("states", x.count(11), 1);
        due.is("undo", x.undo(), 0);
        x.set(0, 7);
        for (int i = 0; i < 4; i++) {
            x.play();
        }
        due.is("states", x.count(11), 4);
        for (int i = 0; i < 4; i++) {
            x.undo();
        }
        due.is("the change before was dropped", x.undo(), Due.IMPOSSIBLE);
        due.is("its setting stays", x.count(20), 7);
        Due.type(x, "t5,5;x");
        due.is("play with a fault", x.play(), Due.IMPOSSIBLE);
        x.clearText();
        due.is("play of the emptied text", x.play(), 0);
        due.is("no tenant", x.count(0), 0);
    }

    private static void playNumber() {
        due.about("25: returns how many there are in it");
        due.is("none", new DepositProofs().play(), 0);
        due.is("one", typed("t5,5;").play(), 1);
        due.is("six", typed("t5,5;".repeat(6)).play(), 6);
        StringBuilder text = new StringBuilder();
        DepositProofs x = new DepositProofs();
        for (int thing = 0; thing < 4; thing++) {
            x.thing(5, 5, -1, 5, 5);
            for (int kind = 0; kind < 4; kind++) {
                text.append("p").append(thing).append(",").append(kind).append(";");
            }
        }
        Due.type(x, text.toString());
        due.is("sixteen, the most in 80 characters", x.play(), 16);
    }

    private static void playFault() {
        due.about("25: NOT_POSSIBLE if it has a fault");
        for (String text : new String[] {"x", ";", "t5,5", "t5,241;", "t5,5;x", "t5,5;g0,4;",
            "t5,5;t5,5;t5,5;t5,5;t5,5;t5,5;t5,5;", "i5,5,0,5,5;t5,5;"}) {
            DepositProofs x = typed(text);
            due.is("play of " + text, x.play(), Due.IMPOSSIBLE);
            due.is("no tenants by " + text, x.count(0), 0);
            due.is("no things by " + text, x.count(2), 0);
            due.is("no states by " + text, x.count(11), 0);
        }
    }
}
