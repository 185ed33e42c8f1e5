import java.util.function.Consumer;
import java.util.regex.Pattern;

/** The sentences of 'Texts' that name boundary cases, each with a test of its own. */
public final class EdgesTextsTest {
    private static final String IN = "Texts";
    /** One of each kind, in the shortest and the longest form. */
    private static final String[] ORDERS = {"w0,0;", "w6,99;", "w006,255;", "r0;", "r06;", "r006;", "b0;", "b02;", "b002;", "p1;",
        "p10;", "p999;", "a0,0,0;", "a02,04,99;", "a002,004,255;", "m0,0;", "m02,31;", "m002,031;"};
    /** What an order can begin with. */
    private static final Pattern BEGINNING = Pattern.compile("|[rbp]\\d{0,3}|[rbp]\\d{1,3};|[wma]\\d{0,3}|[wma]\\d{1,3},\\d{0,3}"
        + "|[wm]\\d{1,3},\\d{1,3};|a\\d{1,3},\\d{1,3},\\d{0,3}|a\\d{1,3},\\d{1,3},\\d{1,3};");
    private static final String ORDERS_OF_57 = "r0;r0;r0;r0;r0;r0;r0;r0;r0;r0;r0;r0;r0;r0;r0;r0;r0;r0;r0;";

    public static void main(String[] args) {
        emptyText();
        fullText();
        eachOrder();
        numbersOfDigits();
        zerosAhead();
        followedBySemicolon();
        firstOrderNotPossible();
        positions();
        otherCharacters();
        endsTooEarly();
        notOfThisForm();
        formComesFirstInAnOrder();
        notPossibleOrders();
        thoseAheadAreDone();
        errorCode();
        textStays();
        Checks.end("EdgesTextsTest");
    }

    private static Chip withText(String orders) {
        Chip chip = new Chip();
        Checks.type(chip, orders);
        return chip;
    }

    private static void fault(String orders, int position, int reason, int cause) {
        Chip chip = withText(orders);
        Checks.due("position in " + orders, position, chip.fault(0));
        Checks.due("reason in " + orders, reason, chip.fault(1));
        Checks.due("cause in " + orders, cause, chip.fault(2));
        Checks.due("play of " + orders, Checks.IMPOSSIBLE, chip.play());
    }

    private static void noFault(String orders, int howMany) {
        Chip chip = withText(orders);
        for (int what = 0; what <= 2; what++) {
            Checks.due("fault(" + what + ") of " + orders, Checks.NONE, chip.fault(what));
        }
        Checks.due("play of " + orders, howMany, chip.play());
    }

    private static void emptyText() {
        Checks.sentence(IN, "There is a text of at most 60 characters, initially empty");
        Chip chip = new Chip();
        Checks.due("length", 0, chip.count(13));
        for (int what = 0; what <= 2; what++) {
            Checks.due("no fault", Checks.NONE, chip.fault(what));
        }
        Checks.due("no orders", 0, chip.play());
        Checks.due("nothing is emptied", 0, chip.clearText());
        Checks.due("the first character", 1, chip.type('r'));
    }

    private static void fullText() {
        Checks.sentence(IN, "There is a text of at most 60 characters");
        Chip chip = new Chip();
        for (int length = 1; length <= 60; length++) {
            Checks.due("type", length, chip.type(length % 3 == 1 ? 'r' : length % 3 == 2 ? '0' : ';'));
        }
        Checks.due("the 61st character", Checks.LIMIT, chip.type(';'));
        Checks.due("length", 60, chip.count(13));
        Checks.due("no fault", Checks.NONE, chip.fault(0));
        Checks.due("20 orders", 20, chip.play());
        Checks.due("20 reads", 20, chip.count(8));
        Checks.due("clearText()", 60, chip.clearText());
        Checks.due("room again", 1, chip.type(';'));
        noFault("a0,0,0;a1,1,1;a2,2,2;a0,3,3;a1,4,4;a2,0,5;a0,1,6;a1,2,7;p99;", 9);
        noFault(ORDERS_OF_57 + "r6;", 20);
        noFault("p1;b0;w0,89;w0,089;w00,089;w000,089;m0,31;m00,031;r006;p999;", 10);
    }

    private static void eachOrder() {
        Checks.sentence(IN, "orders, each followed by \";\": \"w\" a register, \",\", a value (written), \"r\" a register (read), \"b\" a"
            + " mode (a burst), \"p\" phases (that pass), \"a\" an alarm, \",\", a register, \",\", a value (of the alarm) or \"m\" an"
            + " alarm, \",\", a mask (it is armed)");
        for (String order : ORDERS) {
            noFault(order, 1);
            noFault(order + order, 2);
        }
        plays("w2,35;", chip -> chip.write(2, 35));
        plays("r5;", chip -> chip.read(5));
        plays("b0;", chip -> chip.burst(0));
        plays("b1;", chip -> chip.burst(1));
        plays("b2;", chip -> chip.burst(2));
        plays("p37;", chip -> chip.pass(37));
        plays("a1,4,200;", chip -> chip.alarm(1, 4, 200));
        plays("m1,30;", chip -> chip.arm(1, 30));
        plays("m0,0;", chip -> chip.arm(0, 0));
    }

    private static void plays(String order, Consumer<Chip> call) {
        Chip played = prepared();
        Chip called = prepared();
        Checks.type(played, order);
        Checks.due("play of " + order, 1, played.play());
        call.accept(called);
        Checks.same("state behind " + order, Checks.stateOf(called), Checks.stateOf(played));
        Checks.due("states behind " + order, called.count(12), played.count(12));
    }

    private static Chip prepared() {
        Chip chip = Checks.showing(0x59, 0x59, 0x23, 7, 0x31, 0x12, 0x99);
        chip.arm(1, 31);
        chip.pass(15);
        return chip;
    }

    private static void numbersOfDigits() {
        Checks.sentence(IN, "numbers of 1 to 3 digits");
        String[] kinds = {"r", "b", "p", "w", "w0,", "a", "a0,", "a0,0,", "m", "m0,"};
        String[] ends = {";", ";", ";", ",1;", ";", ",1,1;", ",1;", ";", ",1;", ";"};
        for (int i = 0; i < kinds.length; i++) {
            fault(kinds[i] + ends[i], 0, 1, kinds[i].length());
            noFault(kinds[i] + "1" + ends[i], 1);
            noFault(kinds[i] + "01" + ends[i], 1);
            noFault(kinds[i] + "001" + ends[i], 1);
            fault(kinds[i] + "0001" + ends[i], 0, 1, kinds[i].length() + 3);
            fault(kinds[i] + "1000" + ends[i], 0, 1, kinds[i].length() + 3);
            fault(kinds[i] + "-1" + ends[i], 0, 1, kinds[i].length());
            fault(kinds[i] + "+1" + ends[i], 0, 1, kinds[i].length());
            fault(kinds[i] + " 1" + ends[i], 0, 1, kinds[i].length());
            fault(kinds[i] + "1 " + ends[i], 0, 1, kinds[i].length() + 1);
        }
        noFault("p999;", 1);
        fault("p9999;", 0, 1, 4);
    }

    private static void zerosAhead() {
        Checks.sentence(IN, "0 ahead allowed");
        Chip chip = withText("w006,009;p010;a000,002,003;m001,004;r000;b001;");
        Checks.due("play", 6, chip.play());
        Checks.due("the year is 9, not 11 or 0", 9, chip.registerOf(6, 0));
        Checks.due("10 phases, 2 of a read and 14 of a burst", 26, chip.count(10));
        Checks.due("value of the alarm", 3, chip.alarmOf(0, 2));
        Checks.due("mask", 4, chip.alarmOf(1, 5));
        Checks.due("mode", 1, chip.log(0, 7));
        noFault("r000;", 1);
        fault("r007;", 0, 2, Checks.INVALID);
        fault("p000;", 0, 2, Checks.INVALID);
        fault("r010;", 0, 2, Checks.INVALID);
    }

    private static void followedBySemicolon() {
        Checks.sentence(IN, "orders, each followed by \";\"");
        for (String order : ORDERS) {
            String open = order.substring(0, order.length() - 1);
            fault(open, 0, 1, open.length());
            fault(open + ",", 0, 1, open.length());
            fault(open + ":", 0, 1, open.length());
            fault(open + "r0;", 0, 1, open.length());
            fault(order + ";", order.length(), 1, 0);
            fault(order + " ", order.length(), 1, 0);
            fault(";" + order, 0, 1, 0);
        }
        fault("r0;r1", 3, 1, 2);
        fault(";", 0, 1, 0);
    }

    private static void firstOrderNotPossible() {
        Checks.sentence(IN, "The fault of the text is the position, from 0, of the first character of the first order that is not"
            + " possible");
        fault("x", 0, 1, 0);
        fault("r0;x;r9;", 3, 1, 0);
        fault("r0;r9;x;", 3, 2, Checks.INVALID);
        fault("r9;x;", 0, 2, Checks.INVALID);
        fault("r9;r8;", 0, 2, Checks.INVALID);
        fault("x;r9;", 0, 1, 0);
        fault("w0,0;w0,256;w7,0;", 5, 2, Checks.INVALID);
        fault("w0,0;w0,25;w7,0;", 11, 2, Checks.INVALID);
        fault("r0;r1;r2", 6, 1, 2);
    }

    private static void positions() {
        Checks.sentence(IN, "the position, from 0");
        StringBuilder ahead = new StringBuilder();
        for (int reads = 0; reads < 20; reads++) {
            int position = ahead.length();
            fault(ahead + "x", position, 1, 0);
            fault(ahead + "r7;", position, 2, Checks.INVALID);
            fault(ahead + "r0", position, 1, 2);
            ahead.append("r0;");
        }
        fault("r00;r00;" + ORDERS_OF_57.substring(0, 51) + "!", 59, 1, 0);
        fault("r00;" + ORDERS_OF_57.substring(0, 54) + "b0", 58, 1, 2);
        fault("r00;" + ORDERS_OF_57.substring(0, 54) + "b", 58, 1, 1);
        fault(ORDERS_OF_57 + "p12", 57, 1, 3);
        fault("123456789012345678901234567890123456789012345678901234567890", 0, 1, 0);
    }

    /** At which character an order breaks off, or -1 if it does not. */
    private static int breaksOff(String order) {
        int length = 0;
        while (length < order.length() && BEGINNING.matcher(order.substring(0, length + 1)).matches()) {
            length++;
            if (order.charAt(length - 1) == ';') {
                return -1;
            }
        }
        return length;
    }

    /** Each character of each order is made each other one. */
    private static void otherCharacters() {
        Checks.sentence(IN, "its cause is with the reason 1 at which character of the order, from 0, it breaks off");
        for (String order : ORDERS) {
            for (int at = 0; at < order.length(); at++) {
                for (char other = 32; other <= 126; other++) {
                    String changed = order.substring(0, at) + other + order.substring(at + 1);
                    int cause = breaksOff(changed);
                    if (cause >= 0) {
                        fault(changed, 0, 1, cause);
                        fault("b1;" + changed, 3, 1, cause);
                    }
                }
            }
        }
        fault("w0;", 0, 1, 2);
        fault("r0,", 0, 1, 2);
        fault("a0,0;", 0, 1, 4);
        fault("m0,0,", 0, 1, 4);
        fault("W0,0;", 0, 1, 0);
        fault("rr", 0, 1, 1);
    }

    private static void endsTooEarly() {
        Checks.sentence(IN, "(of one that the text ends too early it is its length)");
        for (String order : ORDERS) {
            for (int length = 1; length < order.length(); length++) {
                fault(order.substring(0, length), 0, 1, length);
                fault("m0,31;" + order.substring(0, length), 6, 1, length);
            }
        }
        // What stood there ahead of clearText() is not read.
        Chip chip = withText("a002,004,255;");
        for (int length = 1; length <= 12; length++) {
            Checks.retype(chip, "a002,004,255;".substring(0, length));
            Checks.due("position", 0, chip.fault(0));
            Checks.due("reason", 1, chip.fault(1));
            Checks.due("cause", length, chip.fault(2));
        }
        // The text is full; there is no character behind it.
        fault(ORDERS_OF_57 + "w12", 57, 1, 3);
        fault(ORDERS_OF_57 + "w1,", 57, 1, 3);
        fault("r00;" + ORDERS_OF_57.substring(0, 48) + "a002,004", 52, 1, 8);
    }

    private static void notOfThisForm() {
        Checks.sentence(IN, "its reason is 1 if it is not of this form, its \";\" included");
        String[] broken = {"x", "x0;", ";", "w", "w;", "w0,;", "w,0;", "w0;", "r", "r;", "r,;", "b", "b;", "b0,0;", "p", "p;", "p-1;",
            "p1.;", "a", "a;", "a0;", "a0,0;", "a0,0,;", "a,0,0;", "a0,,0;", "a0,0,0,0;", "m", "m;", "m0;", "m0,;", "m0,-1;",
            "f0,0,0;", "h0,0;", "s0,0;", "c;", "R0;", "0;", ",", " r0;", "w0 ,0;", "w0, 0;"};
        for (String order : broken) {
            Chip chip = withText(order);
            Checks.due("position of " + order, 0, chip.fault(0));
            Checks.due("reason of " + order, 1, chip.fault(1));
            Checks.due("play of " + order, Checks.IMPOSSIBLE, chip.play());
        }
    }

    private static void formComesFirstInAnOrder() {
        Checks.sentence(IN, "and otherwise 2");
        // What is out of range, and not of the form, has the reason 1.
        fault("r9", 0, 1, 2);
        fault("r9,", 0, 1, 2);
        fault("w9,999", 0, 1, 6);
        fault("w9,9999;", 0, 1, 6);
        fault("a9,9,", 0, 1, 5);
        fault("p0", 0, 1, 2);
        fault("b9x", 0, 1, 2);
        fault("m3,32", 0, 1, 5);
        fault("r9;", 0, 2, Checks.INVALID);
    }

    private static void notPossibleOrders() {
        Checks.sentence(IN, "and with the reason 2 the error code that the call returns for it");
        String[] lasts = {"w6,255;", "r6;", "b2;", "p999;", "p1;", "a2,4,255;", "m2,31;"};
        for (String order : lasts) {
            noFault(order, 1);
        }
        String[] beyond = {"w7,0;", "w0,256;", "w7,256;", "w999,999;", "w0,999;", "r7;", "r999;", "b3;", "b999;", "p0;", "a3,0,0;",
            "a0,5,0;", "a0,0,256;", "a999,999,999;", "m3,0;", "m0,32;", "m999,999;", "m0,255;"};
        for (String order : beyond) {
            fault(order, 0, 2, Checks.INVALID);
            fault("b2;m1,31;" + order, 9, 2, Checks.INVALID);
        }
    }

    private static void thoseAheadAreDone() {
        Checks.sentence(IN, "when those ahead of it are done");
        // No order makes another one possible, or not possible; and those ahead are done for the telling alone.
        fault("m0,31;w0,89;p999;b2;r7;", 20, 2, Checks.INVALID);
        fault("w0,89;w0,256;", 6, 2, Checks.INVALID);
        Chip chip = withText("w0,89;p15;b0;a0,0,1;m0,1;r7;");
        String before = Checks.stateOf(new Chip());
        Checks.due("position", 25, chip.fault(0));
        Checks.due("reason", 2, chip.fault(1));
        Checks.due("cause", Checks.INVALID, chip.fault(2));
        Checks.due("play", Checks.IMPOSSIBLE, chip.play());
        Checks.same("nothing is done", before, Checks.stateOf(chip));
        Checks.due("states", 0, chip.count(12));
        Chip none = withText("w0,89;p15;b0;a0,0,1;m0,1;r6;");
        Checks.due("no fault", Checks.NONE, none.fault(0));
        Checks.same("nothing is done", before, Checks.stateOf(none));
    }

    private static void errorCode() {
        Checks.sentence(IN, "the error code that the call returns for it");
        Chip chip = new Chip();
        Checks.type(chip, "b3;");
        Checks.due("as burst(3) does", chip.burst(3), chip.fault(2));
        Checks.retype(chip, "p0;");
        Checks.due("as pass(0) does", chip.pass(0), chip.fault(2));
        Checks.retype(chip, "w0,256;");
        Checks.due("as write(0, 256) does", chip.write(0, 256), chip.fault(2));
        Checks.retype(chip, "r7;");
        Checks.due("as read(7) does", chip.read(7), chip.fault(2));
        Checks.retype(chip, "a0,5,0;");
        Checks.due("as alarm(0, 5, 0) does", chip.alarm(0, 5, 0), chip.fault(2));
        Checks.retype(chip, "m0,32;");
        Checks.due("as arm(0, 32) does", chip.arm(0, 32), chip.fault(2));
    }

    private static void textStays() {
        Checks.sentence(IN, "The text stays, whether it has a fault or not.");
        Chip right = withText("r0;w1,5;");
        Checks.due("play", 2, right.play());
        Checks.due("length", 8, right.count(13));
        Checks.due("play again", 2, right.play());
        Checks.due("reads", 2, right.count(8));
        right.type('p');
        Checks.due("its fault", 8, right.fault(0));
        right.type('7');
        Checks.due("cause", 2, right.fault(2));
        right.type(';');
        Checks.due("play it all", 3, right.play());
        Chip wrong = withText("r0;w7,5;");
        Checks.due("play", Checks.IMPOSSIBLE, wrong.play());
        Checks.due("length", 8, wrong.count(13));
        Checks.due("its fault", 3, wrong.fault(0));
        Checks.due("play", Checks.IMPOSSIBLE, wrong.play());
        Checks.due("its fault", 3, wrong.fault(0));
        Checks.due("clearText()", 8, wrong.clearText());
    }
}
