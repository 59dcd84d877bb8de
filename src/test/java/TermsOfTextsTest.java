/** The section "Terms", texts: each sentence that names a boundary case has a test of its own here. */
public final class TermsOfTextsTest {
    private static final Due due = new Due();

    /** Of each command: its letter, and numbers with which it is possible in the flat of "flat". */
    private static final String[][] COMMANDS = {
        {"t", "5", "5"}, {"g", "0", "9"}, {"i", "5", "5", "s", "5", "5"}, {"o", "1", "5", "9"},
        {"p", "0", "1"}, {"d", "0", "0"}, {"v", "2", "70"},
    };

    public static void main(String[] args) {
        atMost80Characters();
        unfinishedAtThe80th();
        initiallyEmpty();
        eachFollowedByItsEnd();
        formsOfCommands();
        lettersOfCommands();
        commaBetweenNumbers();
        sForShared();
        oneToFourDigits();
        zerosAhead();
        firstCharacterOfTheFirstFault();
        thoseAheadAreDone();
        reason1();
        reason2();
        reason3();
        formIsLookedAtFirst();
        due.end();
    }

    /**
     * Tenants 0 and 1; thing 0 of tenant 0 with a loss; thing 1, shared, not looked at again; thing 2
     * of tenant 1 with a loss, disputed by that tenant.
     */
    private static void flat(DepositProofs x) {
        x.tenant(300, 0);
        x.tenant(200, 9);
        x.thing(90, 100, 0, 10, 0);
        x.thing(90, 100, -1, 10, 9);
        x.thing(90, 100, 1, 10, 0);
        x.look(0, 0, 5);
        x.look(2, 0, 5);
        x.dispute(2, 1);
    }

    /** Position and reason are as due for a text on the flat; -4 for no fault. */
    private static void faultOf(String text, int position, int reason) {
        DepositProofs x = Due.after(TermsOfTextsTest::flat);
        Due.type(x, text);
        due.is("position of " + text, x.fault(0), position);
        due.is("reason of " + text, x.fault(1), reason);
    }

    private static String command(String... parts) {
        StringBuilder text = new StringBuilder(parts[0]);
        for (int i = 1; i < parts.length; i++) {
            text.append(parts[i]).append(i + 1 < parts.length ? ',' : ';');
        }
        return text.toString();
    }

    private static void atMost80Characters() {
        due.about("Terms: a text of at most 80 characters");
        DepositProofs x = new DepositProofs();
        Due.type(x, "p0,0;".repeat(15) + "p0,0");
        due.is("79", x.count(12), 79);
        due.is("the 80th", x.type(';'), 80);
        due.is("the 81st", x.type(';'), Due.LIMIT);
        due.is("80 still", x.count(12), 80);
        x.thing(5, 5, -1, 5, 5);
        due.is("the second command is done already", x.fault(0), 5);
    }

    private static void unfinishedAtThe80th() {
        due.about("Terms: a command that 80 characters leave unfinished");
        String proofs = "p0,0;p0,1;p0,2;p0,3;p1,0;p1,1;p1,2;p1,3;p2,0;p2,1;p2,2;p2,3;p3,0;p3,1;p3,2;";
        for (String end : new String[] {"p3,03", "p3,,,", "p0003", "t5,00", "t0000", "i5,5,", "o5,5,",
            "x", "t", "t5", "t5,", "t5,5", ""}) {
            DepositProofs x = new DepositProofs();
            for (int thing = 0; thing < 4; thing++) {
                x.thing(5, 5, -1, 5, 5);
            }
            Due.type(x, proofs + end);
            due.is("position of " + end, x.fault(0), end.isEmpty() ? Due.NONE : 75);
            due.is("reason of " + end, x.fault(1), end.isEmpty() ? Due.NONE : 1);
            due.is("play of " + end, x.play(), end.isEmpty() ? 15 : Due.IMPOSSIBLE);
        }
    }

    private static void initiallyEmpty() {
        due.about("Terms: initially empty");
        due.is("its length", new DepositProofs().count(12), 0);
        due.is("what is cleared", new DepositProofs().clearText(), 0);
        due.is("its commands", new DepositProofs().play(), 0);
    }

    private static void eachFollowedByItsEnd() {
        due.about("Terms: commands, each followed by \";\"");
        for (String[] parts : COMMANDS) {
            String text = command(parts);
            String open = text.substring(0, text.length() - 1);
            faultOf(text, Due.NONE, Due.NONE);
            faultOf(open, 0, 1);
            faultOf(open + ",", 0, 1);
            faultOf(open + ".", 0, 1);
            faultOf(open + " ;", 0, 1);
            faultOf("t5,5;" + open, 5, 1);
            faultOf(text + ";", text.length(), 1);
        }
    }

    private static void formsOfCommands() {
        due.about("Terms: how many numbers each command has");
        for (String[] parts : COMMANDS) {
            String text = command(parts);
            faultOf(text, Due.NONE, Due.NONE);
            faultOf(text.substring(0, text.lastIndexOf(',')) + ";", 0, 1);
            faultOf(text.substring(0, text.length() - 1) + ",5;", 0, 1);
            faultOf(parts[0] + ";", 0, 1);
            faultOf(text.substring(1), 0, 1);
        }
    }

    private static void lettersOfCommands() {
        due.about("Terms: the letters of commands");
        for (char letter = 32; letter < 127; letter++) {
            int numbers = "tgpdv".indexOf(letter) >= 0 ? 2 : letter == 'o' ? 3 : letter == 'i' ? 5 : 0;
            for (int n = 1; n <= 6; n++) {
                DepositProofs x = new DepositProofs();
                Due.type(x, letter + "9,9,9,9,9,9".substring(0, 2 * n - 1) + ";");
                // The numbers are of the form, but tenant and thing 9 are missing.
                int reason = n != numbers ? 1 : letter == 't' ? Due.NONE : 2;
                due.is("reason of " + letter + " with " + n, x.fault(1), reason);
            }
        }
    }

    private static void commaBetweenNumbers() {
        due.about("Terms: \",\" between the numbers");
        for (String[] parts : COMMANDS) {
            String text = command(parts);
            for (int at = text.indexOf(','); at >= 0; at = text.indexOf(',', at + 1)) {
                for (char other : new char[] {'.', ';', ' ', '-', '+', '/', ':', 's'}) {
                    faultOf(text.substring(0, at) + other + text.substring(at + 1), 0, 1);
                }
                faultOf(text.substring(0, at) + ',' + text.substring(at), 0, 1);
                faultOf(text.substring(0, at) + ", " + text.substring(at + 1), 0, 1);
            }
        }
    }

    private static void sForShared() {
        due.about("Terms: a tenant or \"s\" for shared");
        DepositProofs x = Due.after(TermsOfTextsTest::flat);
        Due.type(x, "i5,5,s,5,5;i5,5,0,5,5;i5,5,1,5,5;");
        due.is("play", x.play(), 3);
        due.is("shared", x.thingOf(3, 2), Due.NONE);
        due.is("of 0", x.thingOf(4, 2), 0);
        due.is("of 1", x.thingOf(5, 2), 1);
        faultOf("i5,5,S,5,5;", 0, 1);
        faultOf("i5,5,-1,5,5;", 0, 1);
        faultOf("i5,5,,5,5;", 0, 1);
        faultOf("i5,5,ss,5,5;", 0, 1);
        faultOf("i5,5,s0,5,5;", 0, 1);
        faultOf("i5,5,0s,5,5;", 0, 1);
        for (String[] parts : COMMANDS) {
            for (int i = 1; i < parts.length; i++) {
                String[] other = parts.clone();
                other[i] = "s";
                boolean owner = parts[0].equals("i") && i == 3;
                faultOf(command(other), owner ? Due.NONE : 0, owner ? Due.NONE : 1);
            }
        }
    }

    private static void oneToFourDigits() {
        due.about("Terms: numbers of one to four digits");
        for (String[] parts : COMMANDS) {
            for (int i = 1; i < parts.length; i++) {
                String[] other = parts.clone();
                other[i] = "";
                faultOf(command(other), 0, 1);
                if (!parts[i].equals("s")) {
                    other[i] = ("0000" + parts[i]).substring(parts[i].length());
                    faultOf(command(other), Due.NONE, Due.NONE);
                    other[i] = ("00000" + parts[i]).substring(parts[i].length());
                    faultOf(command(other), 0, 1);
                }
            }
        }
        faultOf("t9999,0;", Due.NONE, Due.NONE);
        faultOf("t10000,0;", 0, 1);
    }

    private static void zerosAhead() {
        due.about("Terms: 0 ahead allowed");
        DepositProofs x = new DepositProofs();
        Due.type(x, "t0300,006;i0090,0100,0000,010,006;o00,000,0007;d0,00;p0,03;p0,01;v00,080;");
        due.is("play", x.play(), 7);
        due.is("deposit", x.tenantOf(0, 0), 300);
        due.is("month", x.tenantOf(0, 1), 6);
        int[] want = {90, 100, 0, 10, 6, 0, 7, 1, 9, 81, 10, 6, 1, 80, 64};
        for (int what = 0; what < want.length; what++) {
            due.is("thingOf(0, " + what + ")", x.thingOf(0, what), want[what]);
        }
        Due.write(x, "g0,0008;");
        due.is("play", x.play(), 1);
        due.is("gone", x.tenantOf(0, 2), 8);
    }

    private static void firstCharacterOfTheFirstFault() {
        due.about("Terms: the position, from 0, of the first character of the first command not possible");
        faultOf("t5,5", 0, 1);
        faultOf("t5,5;t5,5", 5, 1);
        faultOf("t5,5;t5,999;t5,999;", 5, 2);
        faultOf("t5,5;g1,8;t5,999;x", 5, 3);
        faultOf("t5,5;i1,1,s,1,1;t0005,0005;o9,9,9;", 27, 2);
        faultOf("p0,0;p0,1;p0,2;p0,3;p1,0;p1,1;p1,2;p1,3;p2,0;p2,1;p2,2;p2,3;v2,1;v2,2;v2,3;v1,4;", 75, 3);
        faultOf("p0,0;p0,1;p0,2;p0,3;p1,0;p1,1;p1,2;p1,3;p2,0;p2,1;p2,2;p2,3;v2,1;v2,2;v2,33;;", 76, 1);
    }

    private static void thoseAheadAreDone() {
        due.about("Terms: when those ahead of it are done");
        faultOf("g2,5;", 0, 2);
        faultOf("t5,5;g2,5;", Due.NONE, Due.NONE);
        faultOf("t5,5;g2,5;g2,5;", 10, 3);
        faultOf("i5,5,s,5,5;o3,5,5;o3,5,5;", 18, 3);
        faultOf("p0,0;p0,0;", 5, 3);
        faultOf("v0,50;", 0, 3);
        faultOf("d0,0;v0,50;d0,0;", 11, 3);
        faultOf("i5,5,2,5,5;", 0, 2);
        faultOf("t5,5;i5,5,2,5,5;", Due.NONE, Due.NONE);
        faultOf("t1,1;t1,1;t1,1;t1,1;t1,1;", 20, 3);
    }

    private static void reason1() {
        due.about("Terms: its reason is 1 if it is not of this form, its \";\" included");
        for (String text : new String[] {"x", ";", " ", "t", "t5", "t5,", "t5,5", "tt5,5;", "T5,5;", " t5,5;",
            "t5,5 ;", "t 5,5;"}) {
            faultOf(text, 0, 1);
            faultOf("t5,5;" + text, 5, 1);
        }
    }

    private static void reason2() {
        due.about("Terms: 2 if the call would return INVALID_ARGUMENT for it");
        String[] texts = {"t5,241;", "g2,5;", "g0,241;", "i0,5,s,5,5;", "i1000,5,s,5,5;", "i5,0,s,5,5;",
            "i5,121,s,5,5;", "i5,5,2,5,5;", "i5,5,s,11,5;", "i5,5,s,5,241;", "o3,5,9;", "o1,11,9;",
            "o1,5,241;", "p3,0;", "p0,4;", "d3,0;", "d0,2;", "v3,50;", "v2,101;"};
        for (String text : texts) {
            faultOf(text, 0, 2);
        }
        // At the ends of the ranges there is no fault.
        for (String text : new String[] {"t9999,240;", "t0,0;", "g0,240;", "i999,120,s,10,240;",
            "i1,1,1,0,0;", "o1,10,240;", "o1,0,9;", "p2,3;", "d0,0;", "v2,100;", "v2,0;"}) {
            faultOf(text, Due.NONE, Due.NONE);
        }
    }

    private static void reason3() {
        due.about("Terms: 3 if it would return another error");
        faultOf("g1,8;", 0, 3);
        faultOf("o0,5,9;", 0, 3);
        faultOf("o1,5,8;", 0, 3);
        faultOf("d0,1;", 0, 3);
        faultOf("d1,0;", 0, 3);
        faultOf("d2,1;", 0, 3);
        faultOf("v1,50;", 0, 3);
        DepositProofs x = new DepositProofs();
        for (int i = 0; i < 6; i++) {
            x.tenant(5, 5);
        }
        for (int i = 0; i < 12; i++) {
            x.thing(5, 5, -1, 5, 5);
        }
        for (String text : new String[] {"t5,5;", "i5,5,s,5,5;", "i5,5,0,5,5;"}) {
            Due.write(x, text);
            due.is("a limit, " + text, x.fault(1), 3);
        }
        for (String text : new String[] {"t5,241;", "i5,5,6,5,5;", "i5,5,s,11,5;"}) {
            Due.write(x, text);
            due.is("wrong at a limit, " + text, x.fault(1), 2);
        }
    }

    private static void formIsLookedAtFirst() {
        due.about("Terms: what is not of the form has reason 1, whatever the call would return");
        faultOf("t5,241", 0, 1);
        faultOf("g9,9", 0, 1);
        faultOf("p0,4 ;", 0, 1);
        faultOf("o0,5,9", 0, 1);
        faultOf("v0,50,1;", 0, 1);
        faultOf("i5,5,9,5;", 0, 1);
    }
}
