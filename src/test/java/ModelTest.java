/** Runs of 512 calls on an object and on the model: all answers are alike. The numbers are mixed, always the same. */
public final class ModelTest {
    private static final int RUNS = 600;
    private static final int LONGEST_ORDER = 7;
    private static final String[] ORDERS = {"w0,89;", "w1,89;", "w2,35;", "w4,40;", "w5,2;", "w6,004;", "r0;", "r6;", "b0;",
        "b1;", "b2;", "p1;", "p15;", "p999;", "a0,0,3;", "a1,1,0;", "m0,30;", "m1,31;", "m2,0;", "w3,255;"};
    private static final String SIGNS = "wrbpamx0123456789,;;,00 ";

    private static long seed;
    private static String called;

    private ModelTest() {
    }

    public static void main(String[] args) {
        for (int run = 0; run < RUNS; run++) {
            seed = 977L * run + 1;
            runBoth(run);
        }
        Checks.end("ModelTest");
    }

    private static int mixed(int below) {
        seed = seed * 6364136223846793005L + 1442695040888963407L;
        return (int) Long.remainderUnsigned(seed >>> 33, below);
    }

    /** Mostly from 0 to most, now and then beyond it. */
    private static int about(int most) {
        if (mixed(40) == 0) {
            int[] beyond = {-1, most + 1, -2, Integer.MAX_VALUE, Integer.MIN_VALUE, most + 2};
            return beyond[mixed(beyond.length)];
        }
        return mixed(most + 1);
    }

    private static void runBoth(int run) {
        Chip chip = new Chip();
        Model model = new Model();
        boolean isCalm = run % 4 == 0;
        while (chip.callsLeft() > 0) {
            int call = Chip.MOST_CALLS - chip.callsLeft();
            // Towards the end there is no room for an order's characters.
            int kind = chip.callsLeft() < LONGEST_ORDER ? 99 : mixed(100);
            long[] answers = kind < 45 ? change(chip, model, kind, isCalm) : kind < 60 ? text(chip, model, kind) : ask(chip, model);
            Checks.due("run " + run + ", call " + call + ": " + called, answers[1], answers[0]);
        }
    }

    private static int value() {
        int[] edges = {0x59, 0x58, 0x23, 0x31, 0x30, 0x29, 0x28, 0x12, 0x02, 0x99, 0x07, 0x01, 0x00, 0x09, 0x0A, 0xFF, 0xF9};
        return mixed(4) == 0 ? about(255) : edges[mixed(edges.length)];
    }

    private static int phases() {
        switch (mixed(6)) {
            case 0: return about(9999);
            case 1: return mixed(400);
            default: return mixed(40);
        }
    }

    private static long[] change(Chip chip, Model model, int kind, boolean isCalm) {
        int a = about(6);
        int b = value();
        int p = phases();
        int m = about(2);
        int bit = about(7);
        int one = about(1);
        if (kind < 12) {
            called = "write(" + a + ", " + b + ")";
            return new long[] {chip.write(a, b), model.write(a, b)};
        }
        if (kind < 16) {
            called = "read(" + a + ")";
            return new long[] {chip.read(a), model.read(a)};
        }
        if (kind < 23) {
            called = "burst(" + m + ")";
            return new long[] {chip.burst(m), model.burst(m)};
        }
        if (kind < 29) {
            called = "pass(" + p + ")";
            return new long[] {chip.pass(p), model.pass(p)};
        }
        if (kind < 33) {
            int r = about(4);
            called = "alarm(" + m + ", " + r + ", " + b + ")";
            return new long[] {chip.alarm(m, r, b), model.alarm(m, r, b)};
        }
        if (kind < 36) {
            int mask = mixed(3) == 0 ? 30 : about(32) - 1;
            called = "arm(" + m + ", " + mask + ")";
            return new long[] {chip.arm(m, mask), model.arm(m, mask)};
        }
        if (kind < 37) {
            called = "clear()";
            return new long[] {chip.clear(), model.clear()};
        }
        if (kind < 39 && !isCalm) {
            called = "fail(" + a + ", " + bit + ", " + one + ")";
            return new long[] {chip.fail(a, bit, one), model.fail(a, bit, one)};
        }
        if (kind < 41) {
            called = "heal(" + a + ", " + bit + ")";
            return new long[] {chip.heal(a, bit), model.heal(a, bit)};
        }
        if (kind < 43) {
            int value = m == 2 ? 3 + about(20) : m == 1 ? one : about(8);
            called = "set(" + m + ", " + value + ")";
            return new long[] {chip.set(m, value), model.set(m, value)};
        }
        called = "undo()";
        return new long[] {chip.undo(), model.undo()};
    }

    private static long[] text(Chip chip, Model model, int kind) {
        if (kind < 49) {
            String order = ORDERS[mixed(ORDERS.length)];
            called = "type all of " + order;
            long got = 0;
            long want = 0;
            for (int i = 0; i < order.length(); i++) {
                got = got * 3 + chip.type(order.charAt(i));
                want = want * 3 + model.type(order.charAt(i));
            }
            return new long[] {got, want};
        }
        if (kind < 51) {
            int sign = mixed(6) == 0 ? about(130) : SIGNS.charAt(mixed(SIGNS.length()));
            called = "type(" + sign + ")";
            return new long[] {chip.type(sign), model.type(sign)};
        }
        if (kind < 54) {
            called = "play()";
            return new long[] {chip.play(), model.play()};
        }
        if (kind < 56) {
            called = "clearText()";
            return new long[] {chip.clearText(), model.clearText()};
        }
        int what = about(2);
        called = "fault(" + what + ")";
        return new long[] {chip.fault(what), model.fault(what)};
    }

    private static long[] ask(Chip chip, Model model) {
        int a = about(6);
        int what = about(9);
        int m = about(2);
        switch (mixed(10)) {
            case 0: called = "registerOf(" + a + ", " + what + ")"; return new long[] {chip.registerOf(a, what), model.registerOf(a, what)};
            case 1: called = "alarmOf(" + m + ", " + what + ")"; return new long[] {chip.alarmOf(m, what), model.alarmOf(m, what)};
            case 2: called = "date(" + a + ")"; return new long[] {chip.date(a), model.date(a)};
            case 3: called = "log(" + a + ", " + what + ")"; return new long[] {chip.log(a, what), model.log(a, what)};
            case 4: called = "readable()"; return new long[] {chip.readable(), model.readable()};
            case 5: called = "safeIn()"; return new long[] {chip.safeIn(), model.safeIn()};
            case 6: called = "ifBurst(" + m + ", " + what + ")"; return new long[] {chip.ifBurst(m, what), model.ifBurst(m, what)};
            case 7: called = "comesIn(" + m + ")"; return new long[] {chip.comesIn(m), model.comesIn(m)};
            case 8: called = "share()"; return new long[] {chip.share(), model.share()};
            default: int count = about(23); called = "count(" + count + ")"; return new long[] {chip.count(count), model.count(count)};
        }
    }
}
