import java.util.Arrays;
import java.util.function.Supplier;

/** The range of each argument of each call, by the document's own words: the first and the last one, and those beyond. */
public final class EdgesArgumentsTest {
    /** A call with one of its arguments open. */
    private interface Call {
        int on(Chip chip, int argument);
    }

    public static void main(String[] args) {
        registers();
        alarms();
        cells();
        settings();
        views();
        ahead();
        counts();
        texts();
        anyArgument();
        Checks.end("EdgesArgumentsTest");
    }

    private static boolean isError(int answer) {
        return answer >= Checks.NONE && answer <= Checks.INVALID;
    }

    /** All from least to most are taken, and nothing else is; what is refused changes nothing. */
    private static void range(String promise, String words, int least, int most, Supplier<Chip> chips, Call call) {
        Checks.sentence(promise, words);
        int step = most - least > 300 ? 97 : 1;
        for (int argument = least; argument <= most; argument += step) {
            taken(chips, call, argument);
        }
        taken(chips, call, most);
        taken(chips, call, most - 1 < least ? most : most - 1);
        refused(chips, call, least - 1, least - 2, least - 256, least - 65536, Integer.MIN_VALUE, Integer.MIN_VALUE + 1,
            least + Integer.MIN_VALUE);
        refused(chips, call, most + 1, most + 2, most + 256, most + 65536, Integer.MAX_VALUE, Integer.MAX_VALUE - 1);
    }

    private static void taken(Supplier<Chip> chips, Call call, int argument) {
        Checks.due(argument + " is refused", 0, isError(call.on(chips.get(), argument)) ? 1 : 0);
    }

    private static void refused(Supplier<Chip> chips, Call call, int... arguments) {
        for (int argument : arguments) {
            Chip chip = chips.get();
            int states = chip.count(12);
            Checks.due("with " + argument, Checks.INVALID, call.on(chip, argument));
            Checks.due("states behind it", states, chip.count(12));
        }
        Chip chip = chips.get();
        call.on(chip, arguments[0]);
        Checks.same("state behind " + arguments[0], Checks.stateOf(chips.get()), Checks.stateOf(chip));
    }

    private static void registers() {
        range("Promise 2", "`register`: 0 to 6", 0, 6, Chip::new, (chip, x) -> chip.write(x, 0x10));
        range("Promise 2", "`value`: 0 to 255", 0, 255, Chip::new, (chip, x) -> chip.write(3, x));
        range("Promise 2", "INVALID_ARGUMENT if an argument is out of range.", 0, 255, Chip::new, (chip, x) -> chip.write(6, x));
        range("Promise 3", "`register`: 0 to 6", 0, 6, Chip::new, (chip, x) -> chip.read(x));
        range("Promise 4", "`mode`: 0 to 2", 0, 2, Chip::new, (chip, x) -> chip.burst(x));
        range("Promise 5", "`phases`: 1 to 9999", 1, 9999, Chip::new, (chip, x) -> chip.pass(x));
        Checks.sentence("Promise 5", "INVALID_ARGUMENT if phases is out of range.");
        Checks.due("pass(0)", Checks.INVALID, new Chip().pass(0));
        Checks.due("pass(10000)", Checks.INVALID, new Chip().pass(10000));
    }

    private static void alarms() {
        range("Promise 6", "`alarm`: 0 to 2", 0, 2, Chip::new, (chip, x) -> chip.alarm(x, 4, 255));
        range("Promise 6", "`register`: 0 to 4", 0, 4, Chip::new, (chip, x) -> chip.alarm(2, x, 255));
        range("Promise 6", "`value`: 0 to 255", 0, 255, Chip::new, (chip, x) -> chip.alarm(0, 0, x));
        range("Promise 7", "`alarm`: 0 to 2", 0, 2, Chip::new, (chip, x) -> chip.arm(x, 31));
        range("Promise 7", "`alarm`: 0 to 2", 0, 2, Chip::new, (chip, x) -> chip.arm(x, -1));
        range("Promise 7", "`mask`: 0 to 31; -1: it is not armed any more", -1, 31, Chip::new, (chip, x) -> chip.arm(0, x));
    }

    /** The cells of bit 5 of all registers, and all of register 5, failed; and no others. */
    private static Chip withFailedCells() {
        Chip chip = new Chip();
        for (int register = 0; register < 7; register++) {
            chip.fail(register, 5, 0);
        }
        for (int bit = 0; bit < 8; bit++) {
            chip.fail(5, bit, 0);
        }
        return chip;
    }

    private static void cells() {
        range("Promise 9", "`register`: 0 to 6", 0, 6, Chip::new, (chip, x) -> chip.fail(x, 0, 0));
        range("Promise 9", "`bit`: 0 to 7", 0, 7, Chip::new, (chip, x) -> chip.fail(6, x, 1));
        range("Promise 9", "`value`: 0 or 1", 0, 1, Chip::new, (chip, x) -> chip.fail(0, 0, x));
        range("Promise 10", "`register`: 0 to 6", 0, 6, EdgesArgumentsTest::withFailedCells, (chip, x) -> chip.heal(x, 5));
        range("Promise 10", "`bit`: 0 to 7", 0, 7, EdgesArgumentsTest::withFailedCells, (chip, x) -> chip.heal(5, x));
    }

    private static void settings() {
        range("Promise 11", "`what`: 0 to 2", 0, 2, Chip::new, (chip, x) -> chip.set(x, x == 1 ? 1 : 4));
        range("Promise 11", "`value`: a value in its range", 0, 8, Chip::new, (chip, x) -> chip.set(0, x));
        range("Promise 11", "`value`: a value in its range", 0, 1, Chip::new, (chip, x) -> chip.set(1, x));
        range("Promise 11", "`value`: a value in its range", 4, 60, Chip::new, (chip, x) -> chip.set(2, x));
    }

    private static Chip withOneBurst() {
        Chip chip = new Chip();
        chip.burst(2);
        return chip;
    }

    private static void views() {
        range("Promise 12", "`register`: 0 to 6", 0, 6, Chip::new, (chip, x) -> chip.registerOf(x, 0));
        range("Promise 12", "`register`: 0 to 6", 0, 6, Chip::new, (chip, x) -> chip.registerOf(x, 6));
        range("Promise 12", "`what`: 0: its value;", 0, 6, Chip::new, (chip, x) -> chip.registerOf(0, x));
        range("Promise 12", "6: the value that it would have if it stepped on now", 0, 6, Chip::new, (chip, x) -> chip.registerOf(4, x));
        range("Promise 13", "`alarm`: 0 to 2", 0, 2, Chip::new, (chip, x) -> chip.alarmOf(x, 9));
        range("Promise 13", "`what`: 0 to 4: its value for this register;", 0, 9, Chip::new, (chip, x) -> chip.alarmOf(2, x));
        range("Promise 14", "`what`: 0: how many days it is behind the first day of the year 0;", 0, 4, Chip::new,
            (chip, x) -> chip.date(x));
        range("Promise 15", "`what`: 0 to 6: the value that is told of this register; 7: its mode", 0, 9,
            EdgesArgumentsTest::withOneBurst, (chip, x) -> chip.log(0, x));
        Checks.sentence("Promise 15", "INVALID_ARGUMENT if an argument is out of range (ago is not below 0)");
        int[] below = {-1, -2, -6, -7, -256, Integer.MIN_VALUE};
        for (int ago : below) {
            Checks.due("log(" + ago + ", 0)", Checks.INVALID, withOneBurst().log(ago, 0));
            Checks.due("log(" + ago + ", 9)", Checks.INVALID, new Chip().log(ago, 9));
        }
        int[] notSoMany = {1, 5, 6, 7, 256, Integer.MAX_VALUE};
        for (int ago : notSoMany) {
            Checks.due("log(" + ago + ", 0)", Checks.NONE, withOneBurst().log(ago, 0));
            Checks.due("log(" + ago + ", 10)", Checks.INVALID, withOneBurst().log(ago, 10));
        }
        Checks.due("log(0, 0)", 0, withOneBurst().log(0, 0));
    }

    private static Chip withArmedAlarms() {
        Chip chip = new Chip();
        for (int alarm = 0; alarm < 3; alarm++) {
            chip.arm(alarm, 31);
        }
        return chip;
    }

    private static void ahead() {
        range("Promise 18", "`mode`: 0 to 2", 0, 2, Chip::new, (chip, x) -> chip.ifBurst(x, 0));
        range("Promise 18", "`mode`: 0 to 2", 0, 2, Chip::new, (chip, x) -> chip.ifBurst(x, 9));
        range("Promise 18", "`what`: as for log()", 0, 9, Chip::new, (chip, x) -> chip.ifBurst(0, x));
        range("Promise 18", "`what`: as for log()", 0, 9, Chip::new, (chip, x) -> chip.ifBurst(2, x));
        range("Promise 19", "`alarm`: 0 to 2", 0, 2, EdgesArgumentsTest::withArmedAlarms, (chip, x) -> chip.comesIn(x));
    }

    private static void counts() {
        Checks.sentence("Promise 21", "12: states in the history; 13: the length of the text; 20 to 22: the settings 0 to 2");
        for (int what = -300; what <= 300; what++) {
            boolean isIn = what >= 0 && what <= 13 || what >= 20 && what <= 22;
            Checks.due("count(" + what + ") is refused", isIn ? 0 : 1, new Chip().count(what) == Checks.INVALID ? 1 : 0);
        }
        Checks.due("count(MIN)", Checks.INVALID, new Chip().count(Integer.MIN_VALUE));
        Checks.due("count(MAX)", Checks.INVALID, new Chip().count(Integer.MAX_VALUE));
    }

    private static Chip withFault() {
        Chip chip = new Chip();
        chip.type('r');
        return chip;
    }

    private static void texts() {
        range("Promise 23", "`character`: 32 to 126", 32, 126, Chip::new, (chip, x) -> chip.type(x));
        range("Promise 23", "INVALID_ARGUMENT if character is out of range", 32, 126, EdgesArgumentsTest::withFault,
            (chip, x) -> chip.type(x));
        range("Promise 25", "`what`: 0: its position; 1: its reason; 2: its cause", 0, 2, EdgesArgumentsTest::withFault,
            (chip, x) -> chip.fault(x));
        Checks.sentence("Promise 25", "INVALID_ARGUMENT if what is out of range");
        for (int what = -100; what <= 100; what++) {
            boolean isIn = what >= 0 && what <= 2;
            Checks.due("fault(" + what + ") is refused", isIn ? 0 : 1, withFault().fault(what) == Checks.INVALID ? 1 : 0);
            Checks.due("fault(" + what + ") of no fault", isIn ? Checks.NONE : Checks.INVALID, new Chip().fault(what));
        }
    }

    /** Every argument for itself beyond its range on both sides, and together with each other one. */
    private static void anyArgument() {
        String any = "INVALID_ARGUMENT if an argument is out of range";
        invalid("Promise 2", any, (chip, x) -> chip.write(x[0], x[1]), new int[][] {{0, 6}, {0, 255}});
        invalid("Promise 3", "INVALID_ARGUMENT if register is out of range.", (chip, x) -> chip.read(x[0]), new int[][] {{0, 6}});
        invalid("Promise 4", "INVALID_ARGUMENT if mode is out of range.", (chip, x) -> chip.burst(x[0]), new int[][] {{0, 2}});
        invalid("Promise 5", "INVALID_ARGUMENT if phases is out of range.", (chip, x) -> chip.pass(x[0]), new int[][] {{1, 9999}});
        invalid("Promise 6", any, (chip, x) -> chip.alarm(x[0], x[1], x[2]), new int[][] {{0, 2}, {0, 4}, {0, 255}});
        invalid("Promise 7", any, (chip, x) -> chip.arm(x[0], x[1]), new int[][] {{0, 2}, {-1, 31}});
        invalid("Promise 9", any, (chip, x) -> chip.fail(x[0], x[1], x[2]), new int[][] {{0, 6}, {0, 7}, {0, 1}});
        invalid("Promise 10", any, (chip, x) -> chip.heal(x[0], x[1]), new int[][] {{0, 6}, {0, 7}});
        invalid("Promise 11", any, (chip, x) -> chip.set(0, x[0]), new int[][] {{0, 8}});
        invalid("Promise 11", any, (chip, x) -> chip.set(1, x[0]), new int[][] {{0, 1}});
        invalid("Promise 11", any, (chip, x) -> chip.set(2, x[0]), new int[][] {{4, 60}});
        int[] noSettings = {-1, 3, Integer.MIN_VALUE, Integer.MAX_VALUE};
        for (int what : noSettings) {
            for (int value = -1; value <= 61; value++) {
                Checks.due("set(" + what + ", " + value + ")", Checks.INVALID, new Chip().set(what, value));
            }
        }
        invalid("Promise 12", any, (chip, x) -> chip.registerOf(x[0], x[1]), new int[][] {{0, 6}, {0, 6}});
        invalid("Promise 13", any, (chip, x) -> chip.alarmOf(x[0], x[1]), new int[][] {{0, 2}, {0, 9}});
        invalid("Promise 14", "INVALID_ARGUMENT if what is out of range", (chip, x) -> chip.date(x[0]), new int[][] {{0, 4}});
        invalid("Promise 15", any, (chip, x) -> chip.log(x[0], x[1]), new int[][] {{0, Integer.MAX_VALUE}, {0, 9}});
        invalid("Promise 18", any, (chip, x) -> chip.ifBurst(x[0], x[1]), new int[][] {{0, 2}, {0, 9}});
        invalid("Promise 19", "INVALID_ARGUMENT if alarm is out of range", (chip, x) -> chip.comesIn(x[0]), new int[][] {{0, 2}});
        invalid("Promise 21", "INVALID_ARGUMENT if what is out of range.", (chip, x) -> chip.count(x[0]), new int[][] {{0, 22}});
        invalid("Promise 21", "INVALID_ARGUMENT if what is out of range.", (chip, x) -> chip.count(x[0] + 14), new int[][] {{6, 8}});
        invalid("Promise 23", "INVALID_ARGUMENT if character is out of range", (chip, x) -> chip.type(x[0]), new int[][] {{32, 126}});
        invalid("Promise 25", "INVALID_ARGUMENT if what is out of range", (chip, x) -> chip.fault(x[0]), new int[][] {{0, 2}});
    }

    /** A call with all of its arguments open. */
    private interface CallOfAll {
        int on(Chip chip, int[] arguments);
    }

    private static void invalid(String promise, String words, CallOfAll call, int[][] ranges) {
        Checks.sentence(promise, words);
        int combinations = 1;
        for (int i = 0; i < ranges.length; i++) {
            combinations *= 4;
        }
        for (int combination = 0; combination < combinations; combination++) {
            int[] arguments = new int[ranges.length];
            boolean isOutOfRange = false;
            int rest = combination;
            for (int i = 0; i < ranges.length; i++) {
                // first, last, below, above
                int place = rest % 4;
                rest /= 4;
                arguments[i] = place < 2 ? ranges[i][place] : place == 2 ? ranges[i][0] - 1 : ranges[i][1] + 1;
                isOutOfRange |= arguments[i] < ranges[i][0] || arguments[i] > ranges[i][1];
            }
            int answer = call.on(new Chip(), arguments);
            int want = isOutOfRange ? 1 : 0;
            Checks.due("refused is " + Arrays.toString(arguments), want, answer == Checks.INVALID ? 1 : 0);
        }
    }
}
