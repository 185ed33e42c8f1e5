/** The sentences of 'Time' on phases, ticks and alarms that name boundary cases, each with a test of its own. */
public final class EdgesTimeTest {
    private static final String IN = "Time";

    public static void main(String[] args) {
        phasesOfASecond();
        phaseBecomes0();
        onlyRolledOverCarries();
        hoursCarryWeekdayAndDay();
        dayCarriesMonth();
        monthCarriesYear();
        yearIsTheLastOne();
        weekdayCarriesNothing();
        lengthWhenTheDayStepsOn();
        alarmsBehindTheStep();
        alarmsThatDoNotCome();
        alarmComesAgain();
        threeAlarms();
        alarmAtFirst();
        alarmMatches();
        alarmMatchesByValue();
        allFiveBits();
        Checks.end("EdgesTimeTest");
    }

    private static void phasesOfASecond() {
        Checks.sentence(IN, "A second has setting 2 phases.");
        for (int second = 4; second <= 60; second++) {
            Chip chip = new Chip();
            chip.set(2, second);
            Checks.due("one phase less than a second of " + second, 0, chip.pass(second - 1));
            Checks.due("seconds", 0, chip.registerOf(0, 0));
            Checks.due("the last phase of a second of " + second, 1, chip.pass(1));
            Checks.due("seconds", 1, chip.registerOf(0, 0));
            Checks.due("a second of " + second, 1, chip.pass(second));
            Checks.due("two seconds less one phase", 1, chip.pass(2 * second - 1));
            Checks.due("seconds", 3, chip.registerOf(0, 0));
            Checks.due("ticks", 3, chip.count(1));
            Checks.due("phases", 4 * second - 1, chip.count(10));
        }
    }

    private static void phaseBecomes0() {
        Checks.sentence(IN, "When a phase passes, the phase of now becomes 1 more; if it is setting 2 then, it becomes 0, and there is"
            + " a tick");
        int[] seconds = {4, 5, 16, 59, 60};
        for (int second : seconds) {
            Chip chip = new Chip();
            chip.set(2, second);
            for (int phase = 1; phase < second; phase++) {
                Checks.due("no tick", 0, chip.pass(1));
                Checks.due("phase", phase, chip.count(0));
            }
            Checks.due("a tick", 1, chip.pass(1));
            Checks.due("phase", 0, chip.count(0));
            Checks.due("ticks", 1, chip.count(1));
            Checks.due("no tick", 0, chip.pass(1));
            Checks.due("phase", 1, chip.count(0));
        }
    }

    /** Behind a tick: the registers from the seconds on. */
    private static void tick(Chip chip, int... want) {
        String before = Checks.shownBy(chip);
        chip.pass(16);
        Checks.same("behind " + before, Checks.told(want), Checks.shownBy(chip));
    }

    private static void onlyRolledOverCarries() {
        Checks.sentence(IN, "the seconds step on; if they roll over, the minutes step on, then likewise the hours");
        tick(Checks.showing(0x58, 0x59, 0x23, 6, 0x31, 0x12, 0x99), 0x59, 0x59, 0x23, 6, 0x31, 0x12, 0x99);
        tick(Checks.showing(0x59, 0x58, 0x23, 6, 0x31, 0x12, 0x99), 0x00, 0x59, 0x23, 6, 0x31, 0x12, 0x99);
        tick(Checks.showing(0x59, 0x59, 0x22, 6, 0x31, 0x12, 0x99), 0x00, 0x00, 0x23, 6, 0x31, 0x12, 0x99);
        tick(Checks.showing(0x60, 0x59, 0x23, 6, 0x31, 0x12, 0x99), 0x61, 0x59, 0x23, 6, 0x31, 0x12, 0x99);
        tick(Checks.showing(0xF9, 0x59, 0x23, 6, 0x31, 0x12, 0x99), 0x00, 0x59, 0x23, 6, 0x31, 0x12, 0x99);
        tick(Checks.showing(0x59, 0x60, 0x23, 6, 0x31, 0x12, 0x99), 0x00, 0x61, 0x23, 6, 0x31, 0x12, 0x99);
        tick(Checks.showing(0x59, 0xFF, 0x23, 6, 0x31, 0x12, 0x99), 0x00, 0x00, 0x23, 6, 0x31, 0x12, 0x99);
        tick(Checks.showing(0x59, 0x59, 0x24, 6, 0x31, 0x12, 0x99), 0x00, 0x00, 0x25, 6, 0x31, 0x12, 0x99);
        tick(Checks.showing(0x59, 0x59, 0xF9, 6, 0x31, 0x12, 0x99), 0x00, 0x00, 0x00, 6, 0x31, 0x12, 0x99);
        tick(Checks.showing(0x00, 0x59, 0x23, 6, 0x31, 0x12, 0x99), 0x01, 0x59, 0x23, 6, 0x31, 0x12, 0x99);
    }

    private static void hoursCarryWeekdayAndDay() {
        Checks.sentence(IN, "if these roll over, the weekday steps on, and the day");
        tick(Checks.showing(0x59, 0x59, 0x23, 6, 0x30, 0x12, 0x99), 0, 0, 0, 7, 0x31, 0x12, 0x99);
        tick(Checks.showing(0x59, 0x59, 0x23, 7, 0x01, 0x01, 0x99), 0, 0, 0, 1, 0x02, 0x01, 0x99);
        tick(Checks.showing(0x59, 0x59, 0x23, 0, 0x00, 0x01, 0x99), 0, 0, 0, 1, 0x01, 0x01, 0x99);
        tick(Checks.showing(0x59, 0x59, 0x23, 8, 0x09, 0x01, 0x99), 0, 0, 0, 9, 0x10, 0x01, 0x99);
    }

    private static void dayCarriesMonth() {
        Checks.sentence(IN, "if the day rolls over, the month");
        tick(Checks.showing(0x59, 0x59, 0x23, 1, 0x31, 0x01, 0x99), 0, 0, 0, 2, 0x01, 0x02, 0x99);
        tick(Checks.showing(0x59, 0x59, 0x23, 1, 0x30, 0x01, 0x99), 0, 0, 0, 2, 0x31, 0x01, 0x99);
        tick(Checks.showing(0x59, 0x59, 0x23, 1, 0x32, 0x01, 0x99), 0, 0, 0, 2, 0x33, 0x01, 0x99);
        tick(Checks.showing(0x59, 0x59, 0x23, 1, 0xF9, 0x01, 0x99), 0, 0, 0, 2, 0x00, 0x01, 0x99);
        tick(Checks.showing(0x59, 0x59, 0x23, 1, 0x31, 0x04, 0x99), 0, 0, 0, 2, 0x32, 0x04, 0x99);
        tick(Checks.showing(0x59, 0x59, 0x23, 1, 0x29, 0x02, 0x99), 0, 0, 0, 2, 0x30, 0x02, 0x99);
        tick(Checks.showing(0x59, 0x59, 0x23, 1, 0x31, 0x00, 0x99), 0, 0, 0, 2, 0x01, 0x01, 0x99);
        tick(Checks.showing(0x59, 0x59, 0x23, 1, 0x31, 0x13, 0x99), 0, 0, 0, 2, 0x01, 0x14, 0x99);
        tick(Checks.showing(0x59, 0x59, 0x23, 1, 0x31, 0xFF, 0x99), 0, 0, 0, 2, 0x01, 0x00, 0x99);
    }

    private static void monthCarriesYear() {
        Checks.sentence(IN, "and if that does, the year");
        tick(Checks.showing(0x59, 0x59, 0x23, 1, 0x31, 0x12, 0x98), 0, 0, 0, 2, 0x01, 0x01, 0x99);
        tick(Checks.showing(0x59, 0x59, 0x23, 1, 0x31, 0x12, 0x9A), 0, 0, 0, 2, 0x01, 0x01, 0xA0);
        tick(Checks.showing(0x59, 0x59, 0x23, 1, 0x30, 0x11, 0x98), 0, 0, 0, 2, 0x01, 0x12, 0x98);
        tick(Checks.showing(0x59, 0x59, 0x23, 1, 0x31, 0x0C, 0x98), 0, 0, 0, 2, 0x01, 0x10, 0x98);
        tick(Checks.showing(0x59, 0x59, 0x23, 1, 0x30, 0x12, 0x98), 0, 0, 0, 2, 0x31, 0x12, 0x98);
    }

    private static void yearIsTheLastOne() {
        Checks.sentence(IN, "and if that does, the year.");
        Chip chip = Checks.showing(0x59, 0x59, 0x23, 7, 0x31, 0x12, 0x99);
        tick(chip, 0, 0, 0, 1, 0x01, 0x01, 0x00);
        for (int register = 0; register < 7; register++) {
            Checks.due("rolled over " + register, 1, chip.registerOf(register, 5));
        }
        chip.write(6, 0xFF);
        chip.pass(16);
        Checks.due("the year steps on with the others alone", 0xFF, chip.registerOf(6, 0));
    }

    private static void weekdayCarriesNothing() {
        Checks.sentence(IN, "the weekday steps on, and the day; if the day rolls over");
        Chip chip = Checks.showing(0x59, 0x59, 0x23, 7, 0x30, 0x01, 0x00);
        tick(chip, 0, 0, 0, 1, 0x31, 0x01, 0x00);
        Checks.due("the weekday rolled over", 1, chip.registerOf(3, 5));
        Checks.due("the day did not", 0, chip.registerOf(4, 5));
        chip = Checks.showing(0x59, 0x59, 0x23, 3, 0x31, 0x01, 0x00);
        tick(chip, 0, 0, 0, 4, 0x01, 0x02, 0x00);
        Checks.due("the weekday did not roll over", 0, chip.registerOf(3, 5));
        Checks.due("the day did", 1, chip.registerOf(4, 5));
    }

    private static void lengthWhenTheDayStepsOn() {
        Checks.sentence(IN, "(The length of the month is the one by the registers as they are when the day steps on.)");
        // Neither the month that follows nor its year has a say.
        tick(Checks.showing(0x59, 0x59, 0x23, 1, 0x30, 0x04, 0x03), 0, 0, 0, 2, 0x01, 0x05, 0x03);
        tick(Checks.showing(0x59, 0x59, 0x23, 1, 0x30, 0x03, 0x03), 0, 0, 0, 2, 0x31, 0x03, 0x03);
        tick(Checks.showing(0x59, 0x59, 0x23, 1, 0x28, 0x02, 0x03), 0, 0, 0, 2, 0x01, 0x03, 0x03);
        tick(Checks.showing(0x59, 0x59, 0x23, 1, 0x28, 0x02, 0x04), 0, 0, 0, 2, 0x29, 0x02, 0x04);
        tick(Checks.showing(0x59, 0x59, 0x23, 1, 0x29, 0x02, 0x04), 0, 0, 0, 2, 0x01, 0x03, 0x04);
        tick(Checks.showing(0x59, 0x59, 0x23, 1, 0x28, 0x01, 0x03), 0, 0, 0, 2, 0x29, 0x01, 0x03);
        tick(Checks.showing(0x59, 0x59, 0x23, 1, 0x29, 0x02, 0x9A), 0, 0, 0, 2, 0x30, 0x02, 0x9A);
        tick(Checks.showing(0x59, 0x59, 0x23, 1, 0x28, 0x02, 0xA0), 0, 0, 0, 2, 0x01, 0x03, 0xA0);
        Chip chip = Checks.showing(0x59, 0x59, 0x23, 1, 0x28, 0x03, 0x04);
        chip.pass(15);
        chip.write(5, 0x02);
        chip.write(6, 0x03);
        chip.pass(1);
        Checks.same("as they were written ahead of the tick", Checks.told(0, 0, 0, 2, 1, 3, 3), Checks.shownBy(chip));
        // By its cell the month stays 2; the day was the last one of February all the same.
        chip = Checks.showing(0x59, 0x59, 0x23, 1, 0x28, 0x02, 0x03);
        chip.fail(5, 0, 0);
        tick(chip, 0, 0, 0, 2, 0x01, 0x02, 0x03);
    }

    private static Chip withAlarm(int... values) {
        Chip chip = Checks.showing(0x59, 0x59, 0x23, 7, 0x31, 0x12, 0x99);
        for (int register = 0; register < values.length; register++) {
            chip.alarm(1, register, values[register]);
        }
        chip.arm(1, 0);
        return chip;
    }

    private static void alarmsBehindTheStep() {
        Checks.sentence(IN, "Then each alarm that is armed, and matches, comes: its flag is set.");
        Chip behind = withAlarm(0, 0, 0, 1, 1);
        behind.pass(15);
        Checks.due("not yet", 0, behind.count(3));
        behind.pass(1);
        Checks.due("flag", 1, behind.alarmOf(1, 7));
        Checks.due("came", 1, behind.alarmOf(1, 8));
        Chip ahead = withAlarm(0x59, 0x59, 0x23, 7, 0x31);
        Checks.due("it matches ahead of the tick", 1, ahead.alarmOf(1, 9));
        ahead.pass(16);
        Checks.due("no flag", 0, ahead.alarmOf(1, 7));
        Checks.due("it came not", 0, ahead.alarmOf(1, 8));
        Chip byCells = withAlarm(0x40, 0, 0, 1, 1);
        byCells.fail(0, 6, 1);
        byCells.pass(16);
        Checks.due("it comes by the cells", 1, byCells.alarmOf(1, 8));
    }

    private static void alarmsThatDoNotCome() {
        Checks.sentence(IN, "each alarm that is armed, and matches, comes");
        Chip notArmed = withAlarm(0, 0, 0, 1, 1);
        notArmed.arm(1, -1);
        notArmed.pass(16);
        Checks.due("it matches", 1, notArmed.alarmOf(1, 9));
        Checks.due("but is not armed", 0, notArmed.count(3));
        Checks.due("came", 0, notArmed.count(4));
        Chip noTick = Checks.showing(0, 0, 0, 6, 1);
        noTick.arm(0, 31);
        noTick.pass(15);
        noTick.read(0);
        noTick.undo();
        Checks.due("it matches", 1, noTick.alarmOf(0, 9));
        Checks.due("but no tick passed", 0, noTick.count(4));
        for (int register = 0; register < 5; register++) {
            Chip chip = withAlarm(0, 0, 0, 1, 1);
            chip.alarm(1, register, 2);
            chip.pass(16);
            Checks.due("another value of " + register, 0, chip.count(3));
            Checks.due("came", 0, chip.count(4));
        }
    }

    private static void alarmComesAgain() {
        Checks.sentence(IN, "comes: its flag is set.");
        Chip chip = new Chip();
        chip.arm(2, 31);
        chip.pass(16);
        chip.pass(16);
        Checks.due("flag", 4, chip.count(3));
        Checks.due("came", 2, chip.alarmOf(2, 8));
        Checks.due("clear()", 4, chip.clear());
        chip.pass(15);
        Checks.due("no flag till the next tick", 0, chip.count(3));
        chip.pass(1);
        Checks.due("flag", 4, chip.count(3));
        Checks.due("came", 3, chip.alarmOf(2, 8));
        chip.alarm(2, 0, 0xFF);
        chip.arm(2, 30);
        chip.pass(160);
        Checks.due("the flag stays where it does not match any more", 4, chip.count(3));
        Checks.due("came", 3, chip.alarmOf(2, 8));
    }

    private static void threeAlarms() {
        Checks.sentence(IN, "An alarm, 0 to 2");
        for (int armed = 0; armed < 8; armed++) {
            Chip chip = new Chip();
            for (int alarm = 0; alarm < 3; alarm++) {
                if ((armed >> alarm & 1) == 1) {
                    chip.arm(alarm, 31);
                }
            }
            chip.pass(16);
            Checks.due("flags", armed, chip.count(3));
            Checks.due("came", Integer.bitCount(armed), chip.count(4));
        }
        int[] none = {-1, 3, 4, Integer.MIN_VALUE, Integer.MAX_VALUE};
        for (int alarm : none) {
            Chip chip = new Chip();
            Checks.due("alarm(" + alarm + ", 0, 0)", Checks.INVALID, chip.alarm(alarm, 0, 0));
            Checks.due("arm(" + alarm + ", 0)", Checks.INVALID, chip.arm(alarm, 0));
            Checks.due("alarmOf(" + alarm + ", 0)", Checks.INVALID, chip.alarmOf(alarm, 0));
            Checks.due("comesIn(" + alarm + ")", Checks.INVALID, chip.comesIn(alarm));
        }
    }

    private static void alarmAtFirst() {
        Checks.sentence(IN, "has a value for each of the registers 0 to 4 (0 at first), a mask (0 at first), and is armed or not (at"
            + " first).");
        Chip chip = new Chip();
        for (int alarm = 0; alarm < 3; alarm++) {
            for (int what = 0; what <= 9; what++) {
                Checks.due("alarmOf(" + alarm + ", " + what + ") at first", 0, chip.alarmOf(alarm, what));
            }
            Checks.due("a value of register 4", 0, chip.alarm(alarm, 4, 1));
            Checks.due("no value of register 5", Checks.INVALID, chip.alarm(alarm, 5, 1));
            Checks.due("no value of register -1", Checks.INVALID, chip.alarm(alarm, -1, 1));
        }
        Chip still = Checks.showing(0x58, 0x59, 0x23, 0, 0);
        still.pass(16);
        still.write(0, 0xF9);
        still.write(1, 0);
        still.write(2, 0);
        still.pass(16);
        Checks.due("all match behind this tick", 1, still.alarmOf(0, 9));
        Checks.due("but none is armed", 0, still.count(4));
    }

    private static void alarmMatches() {
        Checks.sentence(IN, "It matches if each of these registers whose bit is not in its mask has the value of the alarm");
        int[] values = {0x11, 0x22, 0x13, 4, 5};
        for (int alike = 0; alike < 32; alike++) {
            Chip chip = Checks.showing(values);
            for (int register = 0; register < 5; register++) {
                boolean isAlike = (alike >> register & 1) == 1;
                chip.alarm(2, register, isAlike ? values[register] : values[register] ^ 0x80);
            }
            for (int mask = 0; mask < 32; mask++) {
                chip.arm(2, mask);
                int want = (alike | mask) == 31 ? 1 : 0;
                Checks.due("alike " + alike + ", mask " + mask, want, chip.alarmOf(2, 9));
            }
            Checks.due("armed or not", 1, chip.arm(2, -1));
            Checks.due("it still matches by the mask that it keeps", 1, chip.alarmOf(2, 9));
        }
    }

    private static void alarmMatchesByValue() {
        Checks.sentence(IN, "has the value of the alarm");
        Chip chip = Checks.showing(0, 0, 0x23, 6, 1);
        chip.arm(0, 27);
        chip.alarm(0, 2, 0x1D);
        Checks.due("the same number in another value", 0, chip.alarmOf(0, 9));
        chip.write(2, 0x1D);
        Checks.due("the same value, which is not right", 1, chip.alarmOf(0, 9));
        chip.alarm(0, 2, 0xFF);
        chip.write(2, 0xFF);
        Checks.due("255", 1, chip.alarmOf(0, 9));
        chip.write(5, 0x77);
        chip.write(6, 0x77);
        Checks.due("month and year are no matter", 1, chip.alarmOf(0, 9));
        for (int bit = 0; bit < 8; bit++) {
            chip.write(2, 255 - (1 << bit));
            Checks.due("without bit " + bit, 0, chip.alarmOf(0, 9));
        }
    }

    private static void allFiveBits() {
        Checks.sentence(IN, "an alarm with all five bits in its mask matches always.");
        Chip chip = new Chip();
        for (int register = 0; register < 5; register++) {
            chip.alarm(0, register, 0xEE);
        }
        chip.arm(0, 31);
        for (int tick = 1; tick <= 61; tick++) {
            Checks.due("matches", 1, chip.alarmOf(0, 9));
            Checks.due("comes in", 1, chip.comesIn(0));
            chip.pass(16);
            Checks.due("came", tick, chip.alarmOf(0, 8));
        }
        for (int register = 0; register < 5; register++) {
            chip.arm(0, 31 - (1 << register));
            Checks.due("four bits, all but " + register, 0, chip.alarmOf(0, 9));
        }
    }
}
