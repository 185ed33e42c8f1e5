import java.time.LocalDate;

/** The sentences of the promises 1 to 15 that name boundary cases of what is returned, each with a test of its own. */
public final class EdgesCallsTest {
    public static void main(String[] args) {
        setsAreBits();
        noTimePasses();
        newObject();
        writeReturnsItsValueThen();
        writePassesNoTime();
        readReturnsWhatIsSeen();
        burstReturnsIfTorn();
        burstReadsAll();
        passReturnsTicks();
        alarmReturnsPreviousOne();
        armReturnsIfItWas();
        armKeepsItsMask();
        armGivesAnotherMask();
        clearReturnsFlags();
        failReturnsTheValue();
        failIsForNowOn();
        failOfAFailedCell();
        healKeepsTheValue();
        healReturnsFailedCells();
        healOfARightCell();
        setReturnsWhatItWas();
        whyNotRight();
        lastNumber();
        failedCells();
        rolledOver();
        ifItSteppedOn();
        alarmOfArmedAndFlag();
        alarmOfCame();
        alarmOfMatches();
        dateOfItsThreeRegisters();
        daysBehindTheFirst();
        weekdayByTheDate();
        weekdayHasThisNumber();
        lengthOfTheMonth();
        daysUntilTheEnd();
        dateNotRight();
        latestSix();
        latestIsZero();
        logTellsAll();
        logOfNotSoMany();
        Checks.end("EdgesCallsTest");
    }

    private static void setsAreBits() {
        Checks.sentence("Terms", "Sets are told as bits: bit k is for the one with the number k.");
        for (int register = 0; register < 7; register++) {
            Chip chip = new Chip();
            chip.write(register, 0xFA);
            Checks.due("not right is " + register, 1 << register, chip.count(2));
        }
        for (int alarm = 0; alarm < 3; alarm++) {
            Chip chip = new Chip();
            chip.arm(alarm, 31);
            chip.pass(16);
            Checks.due("flag of " + alarm, 1 << alarm, chip.count(3));
            Checks.due("flag of " + alarm, 1 << alarm, chip.clear());
        }
        for (int bit = 0; bit < 8; bit++) {
            Chip chip = new Chip();
            chip.fail(5, bit, 0);
            Checks.due("failed cell " + bit, 1 << bit, chip.registerOf(5, 4));
        }
        for (int register = 0; register < 5; register++) {
            Chip chip = Checks.showing(1, 1, 1, 1, 1);
            for (int other = 0; other < 5; other++) {
                chip.alarm(0, other, other == register ? 9 : 1);
            }
            chip.arm(0, 1 << register);
            Checks.due("masked is " + register, 1, chip.alarmOf(0, 9));
        }
    }

    private static void noTimePasses() {
        Checks.sentence("Changes and errors", "what there is; no time passes.");
        Chip chip = new Chip();
        chip.arm(0, 31);
        chip.burst(1);
        chip.pass(1);
        for (int what = 0; what <= 9; what++) {
            chip.registerOf(0, what);
            chip.alarmOf(0, what);
            chip.date(what);
            chip.log(0, what);
            chip.ifBurst(2, what);
            chip.count(what);
        }
        chip.readable();
        chip.safeIn();
        chip.comesIn(0);
        chip.share();
        Checks.type(chip, "r0;");
        chip.fault(0);
        chip.clearText();
        chip.clear();
        chip.alarm(0, 0, 0);
        chip.arm(0, 31);
        chip.fail(6, 0, 0);
        chip.heal(6, 0);
        chip.set(2, 16);
        Checks.due("phase", 15, chip.count(0));
        Checks.due("phases", 15, chip.count(10));
        Checks.due("ticks", 0, chip.count(1));
        Checks.due("came", 0, chip.count(4));
    }

    private static void newObject() {
        Checks.sentence("Promise 1", "Creates a chip that shows the first second of the year 0.");
        Chip chip = new Chip();
        Checks.due("days", 0, chip.date(0));
        Checks.due("the weekday is right", 1, chip.date(2));
        Checks.due("no register is wrong", 0, chip.count(2));
        Checks.same("shown", Checks.told(0, 0, 0, 6, 1, 1, 0), Checks.shownBy(chip));
        Checks.due("phase", 0, chip.count(0));
        Checks.due("the whole second is ahead", 0, chip.pass(15));
        Checks.due("its last phase", 1, chip.pass(1));
        Chip other = new Chip();
        Checks.same("another one", Checks.told(0, 0, 0, 6, 1, 1, 0), Checks.shownBy(other));
    }

    private static void writeReturnsItsValueThen() {
        Checks.sentence("Promise 2", "Returns its value then (by cells that failed it can be another one)");
        for (int register = 0; register < 7; register++) {
            Chip chip = new Chip();
            Checks.due("write", 0xFF, chip.write(register, 0xFF));
            Checks.due("write", 0x00, chip.write(register, 0x00));
            chip.fail(register, 7, 1);
            chip.fail(register, 0, 1);
            chip.fail(register, 3, 0);
            Checks.due("write", 0x81, chip.write(register, 0x00));
            Checks.due("write", 0xF7, chip.write(register, 0xFF));
            Checks.due("write", 0x81, chip.write(register, 0x08));
            Checks.due("its value", 0x81, chip.registerOf(register, 0));
            Checks.due("writings", 5, chip.count(9));
        }
    }

    private static void writePassesNoTime() {
        Checks.sentence("Promise 2", "No time passes.");
        Chip chip = new Chip();
        chip.pass(15);
        chip.arm(0, 31);
        for (int register = 0; register < 7; register++) {
            chip.write(register, 0x59);
        }
        Checks.due("phase", 15, chip.count(0));
        Checks.due("phases", 15, chip.count(10));
        Checks.due("ticks", 0, chip.count(1));
        Checks.due("no alarm came", 0, chip.count(4));
        Checks.due("no roll over", 0, chip.registerOf(0, 5));
    }

    private static void readReturnsWhatIsSeen() {
        Checks.sentence("Promise 3", "Returns the value that is seen");
        for (int value = 0; value < 256; value++) {
            Chip chip = new Chip();
            int register = value % 7;
            chip.write(register, value);
            chip.pass(14);
            Checks.due("read(" + register + ")", value, chip.read(register));
            Checks.due("the tick is behind it", 1, chip.count(1));
            Checks.due("reads", 1, chip.count(8));
        }
    }

    private static void burstReturnsIfTorn() {
        Checks.sentence("Promise 4", "Returns 1 if it is torn, otherwise 0");
        Chip chip = Checks.showing(0x59);
        Checks.due("no tick ahead", 0, chip.burst(0));
        Checks.due("two phases ahead of the tick", 1, chip.burst(0));
        Checks.due("told", 0x59, chip.log(0, 0));
        Checks.due("told", 1, chip.log(0, 1));
        Checks.due("the log says so", 1, chip.log(0, 8));
        Checks.due("and of the one ahead", 0, chip.log(1, 8));
    }

    private static void burstReadsAll() {
        Checks.sentence("Reads, bursts", "In a burst all registers are read:");
        for (int mode = 0; mode <= 2; mode++) {
            for (int order = 0; order <= 1; order++) {
                Chip chip = Checks.showing(0xF1, 0xF2, 0xF3, 0xF4, 0xF5, 0xF6, 0xF7);
                chip.set(1, order);
                chip.set(2, 60);
                chip.burst(mode);
                Checks.same("told", Checks.told(0xF1, 0xF2, 0xF3, 0xF4, 0xF5, 0xF6, 0xF7), Checks.toldBy(chip));
                Checks.due("no single reads", 0, chip.count(8));
            }
        }
    }

    private static void passReturnsTicks() {
        Checks.sentence("Promise 5", "Returns how many ticks there are in them");
        int[] seconds = {4, 5, 16, 59, 60};
        int[] passes = {1, 2, 3, 4, 5, 15, 16, 17, 59, 60, 61, 119, 120, 9998, 9999};
        for (int second : seconds) {
            for (int phases : passes) {
                for (int phase = 0; phase < second; phase += second < 10 ? 1 : second - 1) {
                    Chip chip = new Chip();
                    chip.set(2, second);
                    if (phase > 0) {
                        chip.pass(phase);
                    }
                    int want = (phase + phases) / second;
                    Checks.due(phases + " phases from " + phase + " of " + second, want, chip.pass(phases));
                    Checks.due("phase", (phase + phases) % second, chip.count(0));
                    Checks.due("ticks so far", want, chip.count(1));
                    Checks.due("seconds", want % 60, chip.registerOf(0, 1));
                    Checks.due("minutes", want / 60, chip.registerOf(1, 1));
                    Checks.due("phases so far", phase + phases, chip.count(10));
                }
            }
        }
    }

    private static void alarmReturnsPreviousOne() {
        Checks.sentence("Promise 6", "Returns the previous one");
        for (int alarm = 0; alarm < 3; alarm++) {
            for (int register = 0; register < 5; register++) {
                Chip chip = new Chip();
                Checks.due("the first one", 0, chip.alarm(alarm, register, 255));
                Checks.due("255", 255, chip.alarm(alarm, register, 255));
                Checks.due("255", 255, chip.alarm(alarm, register, 0));
                Checks.due("0", 0, chip.alarm(alarm, register, 7));
                for (int other = 0; other < 15; other++) {
                    int want = other == 5 * alarm + register ? 7 : 0;
                    Checks.due("value of " + other, want, chip.alarmOf(other / 5, other % 5));
                }
                Checks.due("no time", 0, chip.count(10));
                Checks.due("it is not armed by that", 0, chip.alarmOf(alarm, 6));
            }
        }
    }

    private static void armReturnsIfItWas() {
        Checks.sentence("Promise 7", "Returns 1 if it was armed, otherwise 0");
        for (int alarm = 0; alarm < 3; alarm++) {
            Chip chip = new Chip();
            Checks.due("takes no arms", 0, chip.arm(alarm, -1));
            Checks.due("arms", 0, chip.arm(alarm, 0));
            Checks.due("the same mask", 1, chip.arm(alarm, 0));
            Checks.due("another mask", 1, chip.arm(alarm, 31));
            Checks.due("takes its arms", 1, chip.arm(alarm, -1));
            Checks.due("takes no arms", 0, chip.arm(alarm, -1));
            Checks.due("arms again", 0, chip.arm(alarm, 5));
            for (int other = 0; other < 3; other++) {
                Checks.due("armed", other == alarm ? 1 : 0, chip.alarmOf(other, 6));
                Checks.due("mask", other == alarm ? 5 : 0, chip.alarmOf(other, 5));
            }
        }
    }

    private static void armKeepsItsMask() {
        Checks.sentence("Promise 7", "-1: it is not armed any more, and keeps its mask");
        for (int mask = 0; mask < 32; mask++) {
            Chip chip = new Chip();
            chip.arm(1, mask);
            chip.arm(1, -1);
            Checks.due("mask", mask, chip.alarmOf(1, 5));
            Checks.due("armed", 0, chip.alarmOf(1, 6));
            Checks.due("comesIn", Checks.IMPOSSIBLE, chip.comesIn(1));
            Checks.due("it matches by its mask", (mask & 24) == 24 ? 1 : 0, chip.alarmOf(1, 9));
        }
        Chip chip = new Chip();
        chip.arm(1, 31);
        chip.pass(16);
        chip.arm(1, -1);
        chip.pass(32);
        Checks.due("its flag stays", 1, chip.alarmOf(1, 7));
        Checks.due("how often it came stays", 1, chip.alarmOf(1, 8));
    }

    private static void armGivesAnotherMask() {
        Checks.sentence("Promise 7", "Arms an alarm, or gives it another mask; or takes its arms.");
        Chip chip = new Chip();
        for (int mask = 31; mask >= 0; mask--) {
            chip.arm(2, mask);
            Checks.due("mask", mask, chip.alarmOf(2, 5));
            Checks.due("armed", 1, chip.alarmOf(2, 6));
        }
        chip.arm(2, -1);
        Checks.due("armed", 0, chip.alarmOf(2, 6));
        chip.arm(2, 16);
        Checks.due("mask", 16, chip.alarmOf(2, 5));
        Checks.due("armed", 1, chip.alarmOf(2, 6));
        Checks.due("another one keeps its own", 0, chip.alarmOf(1, 5));
        Checks.due("its values stay", 0, chip.alarm(2, 0, 5));
        chip.arm(2, 3);
        Checks.due("its values stay", 5, chip.alarmOf(2, 0));
    }

    private static void clearReturnsFlags() {
        Checks.sentence("Promise 8", "Returns the alarms whose flags were set, as a set.");
        for (int flags = 0; flags < 8; flags++) {
            Chip chip = new Chip();
            for (int alarm = 0; alarm < 3; alarm++) {
                chip.arm(alarm, (flags >> alarm & 1) == 1 ? 31 : 0);
            }
            chip.pass(16);
            Checks.due("clear()", flags, chip.clear());
            Checks.due("no flags", 0, chip.count(3));
            Checks.due("clear() again", 0, chip.clear());
            for (int alarm = 0; alarm < 3; alarm++) {
                Checks.due("flag", 0, chip.alarmOf(alarm, 7));
                Checks.due("still armed", 1, chip.alarmOf(alarm, 6));
                Checks.due("how often it came stays", flags >> alarm & 1, chip.alarmOf(alarm, 8));
            }
        }
    }

    private static void failReturnsTheValue() {
        Checks.sentence("Promise 9", "Returns the value of the register then");
        for (int register = 0; register < 7; register++) {
            for (int bit = 0; bit < 8; bit++) {
                for (int value = 0; value <= 1; value++) {
                    Chip chip = new Chip();
                    chip.write(register, 0x5A);
                    int cell = 1 << bit;
                    int want = value == 1 ? 0x5A | cell : 0x5A & ~cell;
                    Checks.due("fail(" + register + ", " + bit + ", " + value + ")", want, chip.fail(register, bit, value));
                    Checks.due("the value", want, chip.registerOf(register, 0));
                    Checks.due("that is no writing", 1, chip.count(9));
                }
            }
        }
    }

    private static void failIsForNowOn() {
        Checks.sentence("Promise 9", "`value`: 0 or 1: what it is from now on");
        Chip chip = new Chip();
        chip.fail(6, 4, 1);
        chip.fail(6, 0, 0);
        Checks.due("write", 0x10, chip.write(6, 0x01));
        Checks.due("write", 0xFE, chip.write(6, 0xFF));
        chip.pass(9999);
        Checks.due("the other registers do without", 0, chip.registerOf(5, 4));
        Checks.due("write", 0x10, chip.write(6, 0x00));
        chip.undo();
        chip.undo();
        Checks.due("undone are the writing and the phases", 0xFE, chip.registerOf(6, 0));
        Checks.due("write", 0xFE, chip.write(6, 0xFF));
    }

    private static void failOfAFailedCell() {
        Checks.sentence("Promise 9", "NOT_POSSIBLE if it has failed");
        for (int first = 0; first <= 1; first++) {
            for (int second = 0; second <= 1; second++) {
                Chip chip = new Chip();
                chip.fail(4, 6, first);
                Checks.due("failed as " + first + ", now as " + second, Checks.IMPOSSIBLE, chip.fail(4, 6, second));
                Checks.due("it is as it was", first << 6, chip.write(4, 0x40 * (1 - first)));
                Checks.due("one cell", 1, chip.count(5));
                Checks.due("the next cell has not failed", 0, isRefused(chip.fail(4, 7, second)));
                Checks.due("nor that of the next register", 0, isRefused(chip.fail(5, 6, second)));
                chip.heal(4, 6);
                Checks.due("healed", 0, isRefused(chip.fail(4, 6, second)));
            }
        }
    }

    private static int isRefused(int answer) {
        return answer < 0 ? 1 : 0;
    }

    private static void healKeepsTheValue() {
        Checks.sentence("Promise 10", "Heals a cell that failed; the register keeps its value.");
        for (int bit = 0; bit < 8; bit++) {
            int cell = 1 << bit;
            Chip chip = new Chip();
            chip.write(2, 0);
            chip.fail(2, bit, 1);
            chip.write(2, 0);
            chip.heal(2, bit);
            Checks.due("the cell stays 1", cell, chip.registerOf(2, 0));
            Checks.due("till it is written", 0, chip.write(2, 0));
            chip.fail(2, bit, 0);
            chip.write(2, 255);
            chip.heal(2, bit);
            Checks.due("the cell stays 0", 255 - cell, chip.registerOf(2, 0));
            Checks.due("till it is written", 255, chip.write(2, 255));
        }
        Chip steps = new Chip();
        steps.fail(0, 0, 0);
        steps.heal(0, 0);
        steps.pass(16);
        Checks.due("it steps on as others do", 1, steps.registerOf(0, 0));
    }

    private static void healReturnsFailedCells() {
        Checks.sentence("Promise 10", "Returns how many cells have failed yet");
        Chip chip = new Chip();
        for (int cell = 0; cell < 56; cell++) {
            chip.fail(cell / 8, cell % 8, cell % 2);
            Checks.due("cells", cell + 1, chip.count(5));
        }
        for (int cell = 55; cell >= 0; cell--) {
            Checks.due("heal", cell, chip.heal(cell / 8, cell % 8));
            Checks.due("cells", cell, chip.count(5));
        }
    }

    private static void healOfARightCell() {
        Checks.sentence("Promise 10", "NOT_POSSIBLE if it has not failed");
        for (int register = 0; register < 7; register++) {
            for (int bit = 0; bit < 8; bit++) {
                Chip chip = new Chip();
                Checks.due("heal", Checks.IMPOSSIBLE, chip.heal(register, bit));
                chip.fail(register, bit, 0);
                Checks.due("another bit", Checks.IMPOSSIBLE, chip.heal(register, 7 - bit));
                Checks.due("another register", Checks.IMPOSSIBLE, chip.heal((register + 1) % 7, bit));
                Checks.due("heal", 0, chip.heal(register, bit));
                Checks.due("healed", Checks.IMPOSSIBLE, chip.heal(register, bit));
                chip.undo();
                Checks.due("the healing is undone", 0, chip.heal(register, bit));
            }
        }
    }

    private static void setReturnsWhatItWas() {
        Checks.sentence("Promise 11", "Returns what it was");
        Chip chip = new Chip();
        Checks.due("set(0, 0)", 2, chip.set(0, 0));
        Checks.due("set(0, 8)", 0, chip.set(0, 8));
        Checks.due("set(0, 8)", 8, chip.set(0, 8));
        Checks.due("set(1, 1)", 0, chip.set(1, 1));
        Checks.due("set(1, 0)", 1, chip.set(1, 0));
        Checks.due("set(2, 60)", 16, chip.set(2, 60));
        Checks.due("set(2, 4)", 60, chip.set(2, 4));
        Checks.due("set(2, 16)", 4, chip.set(2, 16));
        Checks.due("no time", 0, chip.count(10));
    }

    private static void whyNotRight() {
        Checks.sentence("Promise 12", "2: why it is not right: 0 it is; 1 a digit is above 9; 2 its number is below the first one; 3 above"
            + " the last one");
        // register, value, why; where a digit is above 9 and the number beyond the last one, the digit is told
        int[][] cases = {{0, 0x59, 0}, {0, 0x5A, 1}, {0, 0x60, 3}, {0, 0xFF, 1}, {2, 0x24, 3}, {2, 0x1D, 1}, {2, 0x1E, 1}, {3, 0x00, 2},
            {3, 0x0A, 1}, {3, 0x07, 0}, {3, 0x08, 3}, {4, 0x00, 2}, {4, 0x31, 0}, {4, 0x32, 3}, {4, 0x2B, 1}, {5, 0x00, 2}, {5, 0x12, 0},
            {5, 0x13, 3}, {5, 0x0C, 1}, {6, 0x00, 0}, {6, 0x99, 0}, {6, 0x9A, 1}, {6, 0xA0, 1}};
        for (int[] one : cases) {
            Chip chip = new Chip();
            chip.write(one[0], one[1]);
            Checks.due("why " + one[1] + " in " + one[0], one[2], chip.registerOf(one[0], 2));
        }
    }

    private static void lastNumber() {
        Checks.sentence("Promise 12", "3: the last number");
        Chip chip = new Chip();
        int[] last = {59, 59, 23, 7, 31, 12, 99};
        for (int register = 0; register < 7; register++) {
            Checks.due("last number", last[register], chip.registerOf(register, 3));
            chip.write(register, 0xFF);
        }
        for (int register = 0; register < 7; register++) {
            Checks.due("whatever is in it", last[register], chip.registerOf(register, 3));
        }
        chip.write(5, 0x02);
        Checks.due("of a February in no right year", 28, chip.registerOf(4, 3));
        chip.write(6, 0x96);
        Checks.due("of a February in the year 96", 29, chip.registerOf(4, 3));
        chip.write(5, 0x11);
        Checks.due("of a November", 30, chip.registerOf(4, 3));
    }

    private static void failedCells() {
        Checks.sentence("Promise 12", "4: its cells that failed, as a set");
        for (int register = 0; register < 7; register++) {
            Chip chip = new Chip();
            int set = 0;
            for (int bit = 7; bit >= 0; bit--) {
                chip.fail(register, bit, bit % 2);
                set |= 1 << bit;
                Checks.due("cells", set, chip.registerOf(register, 4));
            }
            for (int other = 0; other < 7; other++) {
                Checks.due("cells of " + other, other == register ? 255 : 0, chip.registerOf(other, 4));
            }
            chip.heal(register, 0);
            Checks.due("cells", 254, chip.registerOf(register, 4));
        }
    }

    private static void rolledOver() {
        Checks.sentence("Promise 12", "5: how often it rolled over so far");
        Chip chip = new Chip();
        chip.set(2, 4);
        for (int minute = 1; minute <= 61; minute++) {
            chip.pass(240);
            Checks.due("seconds", minute, chip.registerOf(0, 5));
            Checks.due("minutes", minute >= 60 ? 1 : 0, chip.registerOf(1, 5));
        }
        chip.write(0, 0x59);
        chip.write(0, 0x00);
        Checks.due("not by writing", 61, chip.registerOf(0, 5));
        chip.write(0, 0xF9);
        chip.pass(4);
        Checks.due("not from F9 to 0", 61, chip.registerOf(0, 5));
        chip.write(0, 0x59);
        chip.ifBurst(1, 0);
        Checks.due("not by a burst that would be", 61, chip.registerOf(0, 5));
        chip.burst(1);
        Checks.due("by a burst", 62, chip.registerOf(0, 5));
        chip.undo();
        Checks.due("undone", 61, chip.registerOf(0, 5));
    }

    private static void ifItSteppedOn() {
        Checks.sentence("Promise 12", "6: the value that it would have if it stepped on now");
        Chip chip = Checks.showing(0x59, 0x59, 0x23, 7, 0x31, 0x12, 0x99);
        int[] want = {0, 0, 0, 1, 1, 1, 0};
        for (int register = 0; register < 7; register++) {
            Checks.due("next of " + register, want[register], chip.registerOf(register, 6));
        }
        Checks.same("nothing steps on", Checks.told(0x59, 0x59, 0x23, 7, 0x31, 0x12, 0x99), Checks.shownBy(chip));
        chip.write(5, 0x02);
        chip.write(4, 0x28);
        Checks.due("the last day of February", 1, chip.registerOf(4, 6));
        chip.write(6, 0x04);
        Checks.due("not the last one", 0x29, chip.registerOf(4, 6));
        chip.fail(4, 0, 0);
        Checks.due("with its cell", 0x28, chip.registerOf(4, 6));
        chip.heal(4, 0);
        Checks.due("healed", 0x29, chip.registerOf(4, 6));
    }

    private static void alarmOfArmedAndFlag() {
        Checks.sentence("Promise 13", "5: its mask; 6: 1 if it is armed, otherwise 0; 7: 1 if its flag is set, otherwise 0");
        for (int alarm = 0; alarm < 3; alarm++) {
            Chip chip = new Chip();
            chip.arm(alarm, 31);
            chip.pass(16);
            for (int other = 0; other < 3; other++) {
                int want = other == alarm ? 1 : 0;
                Checks.due("mask", 31 * want, chip.alarmOf(other, 5));
                Checks.due("armed", want, chip.alarmOf(other, 6));
                Checks.due("flag", want, chip.alarmOf(other, 7));
            }
        }
    }

    private static void alarmOfCame() {
        Checks.sentence("Promise 13", "8: how often it came so far");
        Chip chip = new Chip();
        chip.arm(0, 31);
        chip.pass(16);
        chip.arm(1, 31);
        chip.pass(32);
        chip.arm(0, -1);
        chip.pass(16);
        Checks.due("alarm 0", 3, chip.alarmOf(0, 8));
        Checks.due("alarm 1", 3, chip.alarmOf(1, 8));
        Checks.due("alarm 2", 0, chip.alarmOf(2, 8));
        Checks.due("in all", 6, chip.count(4));
        chip.clear();
        Checks.due("clear() leaves it", 3, chip.alarmOf(0, 8));
        chip.arm(2, 31);
        Checks.due("comesIn() is not coming", 1, chip.comesIn(2));
        chip.ifBurst(1, 0);
        Checks.due("nor is a burst that would be", 0, chip.alarmOf(2, 8));
        chip.burst(1);
        Checks.due("no tick in the first 14 phases", 0, chip.alarmOf(2, 8));
        chip.burst(1);
        Checks.due("a tick in the next 14", 1, chip.alarmOf(2, 8));
    }

    private static void alarmOfMatches() {
        Checks.sentence("Promise 13", "9: 1 if it matches now, otherwise 0");
        Chip chip = new Chip();
        Checks.due("weekday 6 and day 1 are not 0", 0, chip.alarmOf(0, 9));
        chip.alarm(0, 3, 6);
        Checks.due("the day is not 0", 0, chip.alarmOf(0, 9));
        chip.alarm(0, 4, 1);
        Checks.due("it matches, and is not armed", 1, chip.alarmOf(0, 9));
        chip.pass(16);
        Checks.due("not now", 0, chip.alarmOf(0, 9));
        chip.write(0, 0);
        Checks.due("now again", 1, chip.alarmOf(0, 9));
        chip.fail(0, 7, 1);
        Checks.due("not by its cell", 0, chip.alarmOf(0, 9));
    }

    private static Chip showingDate(LocalDate date) {
        Chip chip = new Chip();
        chip.write(6, Checks.code(date.getYear() - 2000));
        chip.write(5, Checks.code(date.getMonthValue()));
        chip.write(4, Checks.code(date.getDayOfMonth()));
        return chip;
    }

    private static void dateOfItsThreeRegisters() {
        Checks.sentence("Promise 14", "Returns something of the date, by the registers day, month and year.");
        Chip chip = Checks.showing(0xFF, 0xFF, 0xFF, 0xFF, 0x01, 0x03, 0x04);
        Checks.due("days", 1461 + 60, chip.date(0));
        Checks.due("weekday", 1, chip.date(1));
        Checks.due("the register weekday", 0, chip.date(2));
        Checks.due("length", 31, chip.date(3));
        Checks.due("days until the end", 305, chip.date(4));
    }

    private static void daysBehindTheFirst() {
        Checks.sentence("Promise 14", "0: how many days it is behind the first day of the year 0");
        Checks.due("the first day", 0, new Chip().date(0));
        Checks.due("the last day of the year 0", 365, showingDate(LocalDate.of(2000, 12, 31)).date(0));
        Checks.due("the first day of the year 1", 366, showingDate(LocalDate.of(2001, 1, 1)).date(0));
        Checks.due("the 29th of February", 59, showingDate(LocalDate.of(2000, 2, 29)).date(0));
        Checks.due("the day behind it", 60, showingDate(LocalDate.of(2000, 3, 1)).date(0));
        Checks.due("the first day of the year 4", 1461, showingDate(LocalDate.of(2004, 1, 1)).date(0));
        Checks.due("the last day of all", 36524, showingDate(LocalDate.of(2099, 12, 31)).date(0));
        LocalDate first = LocalDate.of(2000, 1, 1);
        for (int days = 0; days < 36525; days++) {
            LocalDate date = first.plusDays(days);
            boolean isEdge = date.getDayOfMonth() <= 1 || date.getDayOfMonth() >= 28;
            if (isEdge) {
                Checks.due("days of " + date, days, showingDate(date).date(0));
            }
        }
    }

    private static void weekdayByTheDate() {
        Checks.sentence("Promise 14", "1: its weekday, 1 to 7, by that");
        LocalDate first = LocalDate.of(2000, 1, 1);
        for (int days = 0; days < 36525; days += days < 800 ? 1 : 11) {
            LocalDate date = first.plusDays(days);
            Checks.due("weekday of " + date, date.getDayOfWeek().getValue(), showingDate(date).date(1));
        }
        Checks.due("Sunday is 7", 7, showingDate(LocalDate.of(2000, 1, 2)).date(1));
        Checks.due("Monday is 1", 1, showingDate(LocalDate.of(2000, 1, 3)).date(1));
        Chip other = new Chip();
        other.write(3, 2);
        Checks.due("the register weekday is no matter", 6, other.date(1));
    }

    private static void weekdayHasThisNumber() {
        Checks.sentence("Promise 14", "2: 1 if the register weekday has this number, otherwise 0");
        for (int weekday = 0; weekday < 256; weekday++) {
            Chip chip = new Chip();
            chip.write(3, weekday);
            Checks.due("weekday " + weekday, weekday == 6 ? 1 : 0, chip.date(2));
        }
        Chip sunday = showingDate(LocalDate.of(2000, 1, 2));
        sunday.write(3, 0);
        Checks.due("0 on a Sunday", 0, sunday.date(2));
        sunday.write(3, 7);
        Checks.due("7 on a Sunday", 1, sunday.date(2));
    }

    private static void lengthOfTheMonth() {
        Checks.sentence("Promise 14", "3: the length of the month");
        for (int month = 1; month <= 12; month++) {
            for (int year = 2000; year <= 2004; year++) {
                LocalDate date = LocalDate.of(year, month, 1);
                Checks.due("length of " + date, date.lengthOfMonth(), showingDate(date).date(3));
            }
        }
    }

    private static void daysUntilTheEnd() {
        Checks.sentence("Promise 14", "4: days until the end of the year, 0 on the last one");
        for (int year = 0; year <= 99; year++) {
            LocalDate last = LocalDate.of(2000 + year, 12, 31);
            Checks.due("on the last one of " + year, 0, showingDate(last).date(4));
            Checks.due("ahead of it", 1, showingDate(last.minusDays(1)).date(4));
            Checks.due("on the first one of " + year, year % 4 == 0 ? 365 : 364, showingDate(last.withDayOfYear(1)).date(4));
            Checks.due("on the first of March", 305, showingDate(LocalDate.of(2000 + year, 3, 1)).date(4));
            Checks.due("ahead of it", 306, showingDate(LocalDate.of(2000 + year, 3, 1).minusDays(1)).date(4));
        }
    }

    private static void dateNotRight() {
        Checks.sentence("Promise 14", "NOT_FOUND if day, month or year is not right (but for 3)");
        int[][] wrong = {{4, 0x00, 31}, {4, 0x32, 31}, {4, 0x1A, 31}, {4, 0xA0, 31}, {5, 0x00, 31}, {5, 0x13, 31}, {5, 0x0A, 31},
            {6, 0x9A, 31}, {6, 0xA0, 31}, {6, 0xFF, 31}};
        for (int[] one : wrong) {
            Chip chip = new Chip();
            chip.write(one[0], one[1]);
            for (int what = 0; what <= 4; what++) {
                int want = what == 3 ? one[2] : Checks.NONE;
                Checks.due("date(" + what + ") with " + one[1] + " in " + one[0], want, chip.date(what));
            }
        }
        Chip others = Checks.showing(0xFF, 0xFF, 0xFF, 0xFF, 0x29, 0x02, 0x00);
        Checks.due("the other registers are no matter", 59, others.date(0));
        others.write(6, 0x01);
        Checks.due("no 29th of February in the year 1", Checks.NONE, others.date(0));
        Checks.due("but a length of it", 28, others.date(3));
        others.write(5, 0x04);
        others.write(4, 0x31);
        Checks.due("no 31st of April", Checks.NONE, others.date(1));
        others.write(4, 0x30);
        Checks.due("but a 30th", 366 + 119, others.date(0));
    }

    private static void latestSix() {
        Checks.sentence("Promise 15", "Returns something of a burst; the log has the latest 6.");
        for (int bursts = 0; bursts <= 13; bursts++) {
            Chip chip = new Chip();
            for (int i = 1; i <= bursts; i++) {
                chip.write(6, i);
                chip.burst(i % 2);
            }
            int entries = Math.min(bursts, 6);
            Checks.due("entries", entries, chip.count(11));
            Checks.due("bursts", bursts, chip.count(6));
            for (int ago = 0; ago <= 7; ago++) {
                int want = ago < entries ? bursts - ago : Checks.NONE;
                Checks.due("year " + ago + " ago of " + bursts, want, chip.log(ago, 6));
                Checks.due("mode " + ago + " ago", ago < entries ? want % 2 : Checks.NONE, chip.log(ago, 7));
            }
        }
    }

    private static void latestIsZero() {
        Checks.sentence("Promise 15", "`ago`: 0 for the latest one, and so on");
        Chip chip = new Chip();
        for (int i = 1; i <= 9; i++) {
            chip.write(6, i);
            chip.burst(1);
            Checks.due("the latest one", i, chip.log(0, 6));
            Checks.due("the one ahead of it", i == 1 ? Checks.NONE : i - 1, chip.log(1, 6));
        }
        for (int ago = 0; ago < 6; ago++) {
            Checks.due("of 9 the one " + ago + " ago", 9 - ago, chip.log(ago, 6));
        }
    }

    private static void logTellsAll() {
        Checks.sentence("Promise 15", "0 to 6: the value that is told of this register; 7: its mode; 8: 1 if it is torn, otherwise 0; 9:"
            + " how many bursts were made (1, but in the mode 2)");
        int[] shown = {0x59, 0x59, 0x23, 0x07, 0x31, 0x12, 0x99};
        Chip chip = Checks.showing(shown);
        chip.set(2, 60);
        chip.pass(57);
        int[] torn = {0x59, 0x59, 0, 1, 1, 1, 0, 0, 1, 1};
        chip.burst(0);
        for (int what = 0; what <= 9; what++) {
            Checks.due("log(0, " + what + ")", torn[what], chip.log(0, what));
        }
        chip.burst(1);
        int[] atOnce = {0, 0, 0, 1, 1, 1, 0, 1, 0, 1};
        chip.burst(2);
        int[] untilAlike = {0, 0, 0, 1, 1, 1, 0, 2, 0, 2};
        for (int what = 0; what <= 9; what++) {
            Checks.due("log(2, " + what + ")", torn[what], chip.log(2, what));
            Checks.due("log(1, " + what + ")", atOnce[what], chip.log(1, what));
            Checks.due("log(0, " + what + ")", untilAlike[what], chip.log(0, what));
        }
        Checks.type(chip, "b1;b0;");
        chip.play();
        Checks.due("an order's burst", 0, chip.log(0, 7));
        Checks.due("an order's burst", 1, chip.log(1, 7));
        Checks.due("entries", 5, chip.count(11));
        chip.ifBurst(2, 0);
        Checks.due("none of what would be", 5, chip.count(11));
    }

    private static void logOfNotSoMany() {
        Checks.sentence("Promise 15", "NOT_FOUND if there are not so many.");
        Chip chip = new Chip();
        Checks.due("without bursts", Checks.NONE, chip.log(0, 0));
        chip.burst(0);
        Checks.due("one", 0, chip.log(0, 0));
        Checks.due("not two", Checks.NONE, chip.log(1, 0));
        chip.undo();
        Checks.due("undone", Checks.NONE, chip.log(0, 0));
        chip.read(0);
        Checks.due("a read is no burst", Checks.NONE, chip.log(0, 0));
        for (int i = 0; i < 10; i++) {
            chip.burst(1);
        }
        Checks.due("six of ten", 1, chip.log(5, 7));
        Checks.due("not seven", Checks.NONE, chip.log(6, 7));
        Checks.due("not so many", Checks.NONE, chip.log(Integer.MAX_VALUE, 7));
    }
}
