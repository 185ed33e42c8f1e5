/** Promises 23 to 26: type, clearText, fault, play. */
public final class TextsTest {
    public static void main(String[] args) {
        promise23Type();
        promise24ClearText();
        promise25Form();
        promise25NotPossible();
        promise25NoFault();
        promise26EachOrder();
        promise26Play();
        Checks.end("TextsTest");
    }

    private static void promise23Type() {
        Chip chip = new Chip();
        for (int length = 1; length <= 60; length++) {
            Checks.due("type", length, chip.type(31 + length));
        }
        Checks.due("61 characters", Checks.LIMIT, chip.type(32));
        Checks.due("INVALID_ARGUMENT comes first", Checks.INVALID, chip.type(127));
        Checks.due("length", 60, chip.count(13));
        Checks.due("no changes", 0, chip.count(12));
        chip.clearText();
        Checks.due("type(31)", Checks.INVALID, chip.type(31));
        Checks.due("type(127)", Checks.INVALID, chip.type(127));
        Checks.due("type(-1)", Checks.INVALID, chip.type(-1));
        Checks.due("type(65536 + 119)", Checks.INVALID, chip.type(65536 + 'w'));
        Checks.due("length", 0, chip.count(13));
        Checks.due("type(126)", 1, chip.type(126));
    }

    private static void promise24ClearText() {
        Chip chip = new Chip();
        Checks.due("empty", 0, chip.clearText());
        Checks.type(chip, "b3;");
        Checks.due("fault", 0, chip.fault(0));
        Checks.due("clearText()", 3, chip.clearText());
        Checks.due("length", 0, chip.count(13));
        Checks.due("no fault", Checks.NONE, chip.fault(0));
        Checks.due("no changes", 0, chip.count(12));
        Checks.type(chip, "r1;");
        Checks.due("the new text", 1, chip.play());
    }

    private static void fault(String orders, int position, int reason, int cause) {
        Chip chip = new Chip();
        Checks.type(chip, orders);
        String before = Checks.stateOf(chip);
        Checks.due("position in " + orders, position, chip.fault(0));
        Checks.due("reason in " + orders, reason, chip.fault(1));
        Checks.due("cause in " + orders, cause, chip.fault(2));
        Checks.due("play of " + orders, Checks.IMPOSSIBLE, chip.play());
        Checks.due("the text stays", orders.length(), chip.count(13));
        Checks.due("no changes", 0, chip.count(12));
        Checks.same("nothing is done of " + orders, before, Checks.stateOf(chip));
        Checks.due("fault(3)", Checks.INVALID, chip.fault(3));
        Checks.due("fault(-1)", Checks.INVALID, chip.fault(-1));
    }

    private static void promise25Form() {
        String[] broken = {"x", ";", " ", "W0,0;", "w;", "w,", "w0;", "w0 ", "w0,;", "w0,0,", "w0000,", "w0,0000;", "r;", "r,",
            "r0,0;", "r-", "rr", "b;", "b0b", "b0001;", "p;", "p1000;", "p1,", "p+", "p1 ", "a;", "a0;", "a0,0;", "a0,0,;",
            "a0,0,0,", "a0,0,0000", "a0000", "m;", "m0;", "m0,;", "m0,-1;", "m0,0,0;", "0", "~", "w0,/", "w0,:", "p1z"};
        int[] causes = {0, 0, 0, 0, 1, 1, 2, 2, 3, 4, 4, 6, 1, 1,
            2, 1, 1, 1, 2, 4, 1, 4, 2, 1, 2, 1, 2, 4, 5,
            6, 8, 4, 1, 2, 3, 3, 4, 0, 0, 3, 3, 2};
        Checks.due("as many", broken.length, causes.length);
        for (int i = 0; i < broken.length; i++) {
            fault(broken[i], 0, 1, causes[i]);
            fault("p016;" + broken[i] + "r9;", 5, 1, causes[i]);
        }
        String[] early = {"w", "w0", "w012", "w0,", "w0,5", "w0,005", "r", "r0", "b", "b1", "p", "p12", "p123", "a", "a0", "a0,",
            "a0,0", "a0,0,", "a0,0,255", "m", "m0", "m0,", "m0,31"};
        for (String order : early) {
            fault(order, 0, 1, order.length());
            fault("r0;m2,31;" + order, 9, 1, order.length());
        }
        String full = "p1;p1;p1;p1;p1;p1;p1;p1;p1;p1;p1;p1;p1;p1;p1;p1;p1;p1;p1;";
        fault(full + "p12", 57, 1, 3);
        fault(full + "w0,", 57, 1, 3);
        fault(full + "r0x", 57, 1, 2);
        Chip chip = new Chip();
        Checks.type(chip, "w1,23;");
        Checks.retype(chip, "w1,2");
        Checks.due("what was cleared is not read", 4, chip.fault(2));
        Checks.retype(chip, "w1,23");
        Checks.due("what was cleared is not read", 5, chip.fault(2));
        Checks.retype(chip, "w");
        Checks.due("what was cleared is not read", 1, chip.fault(2));
        fault("r0;;", 3, 1, 0);
        fault("r0; r0;", 3, 1, 0);
    }

    private static void promise25NotPossible() {
        String[] outOfRange = {"w7,0;", "w0,256;", "w999,0;", "r7;", "r10;", "b3;", "p0;", "p000;", "a3,0,0;", "a0,5,0;",
            "a0,0,256;", "m3,0;", "m0,32;"};
        for (String order : outOfRange) {
            fault(order, 0, 2, Checks.INVALID);
            fault("b2;" + order + "x", 3, 2, Checks.INVALID);
        }
        fault("r0;x;r9;", 3, 1, 0);
        fault("r9;x;", 0, 2, Checks.INVALID);
        fault("r9", 0, 1, 2);
    }

    private static void promise25NoFault() {
        String[] right = {"", "w0,0;", "w006,255;", "r000;", "r6;", "b2;", "b02;", "p1;", "p999;", "p001;", "a2,4,255;", "m2,31;",
            "m000,000;", "w1,2;r3;b1;p4;a0,0,5;m1,6;"};
        for (String orders : right) {
            Chip chip = new Chip();
            Checks.type(chip, orders);
            for (int what = 0; what <= 2; what++) {
                Checks.due("no fault in " + orders, Checks.NONE, chip.fault(what));
            }
            Checks.due("fault(3)", Checks.INVALID, chip.fault(3));
        }
    }

    private static void promise26EachOrder() {
        Chip played = new Chip();
        Chip called = new Chip();
        Checks.type(played, "a1,0,35;m1,30;w0,89;w4,49;r3;p13;b0;b1;b2;p999;");
        Checks.due("orders", 10, played.play());
        called.alarm(1, 0, 35);
        called.arm(1, 30);
        called.write(0, 89);
        called.write(4, 49);
        called.read(3);
        called.pass(13);
        called.burst(0);
        called.burst(1);
        called.burst(2);
        called.pass(999);
        Checks.same("as the calls do", Checks.stateOf(called), Checks.stateOf(played));
        Checks.due("came", 1, played.alarmOf(1, 8));
        Checks.due("bursts", 3, played.count(6));
        Checks.due("reads", 1, played.count(8));
        Checks.due("writings", 2, played.count(9));
        Checks.due("one change", 1, played.count(12));
        Checks.due("the text stays", 47, played.count(13));
        Checks.due("once more", 10, played.play());
        Checks.due("bursts", 6, played.count(6));
        Checks.due("undo()", 1, played.undo());
        Checks.same("as the calls did", Checks.stateOf(called), Checks.stateOf(played));
    }

    private static void promise26Play() {
        Chip chip = new Chip();
        String first = Checks.stateOf(chip);
        Checks.due("play of nothing", 0, chip.play());
        Checks.due("a change all the same", 1, chip.count(12));
        Checks.same("nothing is done", first, Checks.stateOf(chip));
        Checks.type(chip, "r0;r1;r2;r3;r4;r5;r6;r0;r1;r2;r3;r4;r5;r6;r0;r1;r2;r3;r4;r5;");
        Checks.due("20 orders", 20, chip.play());
        Checks.due("reads", 20, chip.count(8));
        Checks.due("states", 2, chip.count(12));
        Checks.retype(chip, "w0,1;r7;");
        Checks.due("a fault", Checks.IMPOSSIBLE, chip.play());
        Checks.due("nothing of it is done", 0, chip.count(9));
        Checks.due("states", 2, chip.count(12));
        Checks.retype(chip, "w0,1;r7");
        Checks.due("a fault", Checks.IMPOSSIBLE, chip.play());
        chip.undo();
        chip.undo();
        Checks.same("all is undone", first, Checks.stateOf(chip));
    }
}
