/** A clock chip whose digits roll over while it is read; ../shared/DOC.md says what each call promises. */
public final class RollingDigits {
    public static final int INVALID_ARGUMENT = -1000001;
    public static final int NOT_POSSIBLE = -1000002;
    public static final int LIMIT_REACHED = -1000003;
    public static final int NOT_FOUND = -1000004;

    private static final int REGISTERS = 7;
    private static final int SECONDS = 0;
    private static final int MINUTES = 1;
    private static final int HOURS = 2;
    private static final int WEEKDAY = 3;
    private static final int DAY = 4;
    private static final int MONTH = 5;
    private static final int YEAR = 6;
    private static final int BITS = 8;
    private static final int MOST_VALUE = 255;

    private static final int ALARMS = 3;
    private static final int ALARM_REGISTERS = 5;
    private static final int ALL_MASKED = 31;
    private static final int NOT_ARMED = -1;

    private static final int SETTINGS = 3;
    private static final int READ_PHASES = 0;
    private static final int BURST_ORDER = 1;
    private static final int SECOND_PHASES = 2;
    private static final int[] LEAST_SETTING = {0, 0, 4};
    private static final int[] MOST_SETTING = {8, 1, 60};

    private static final int MODES = 3;
    private static final int AT_ONCE = 1;
    private static final int UNTIL_ALIKE = 2;
    private static final int MOST_ALIKE_BURSTS = 5;

    // An entry of the log: the values of the registers, and these behind them.
    private static final int ENTRY_MODE = 7;
    private static final int ENTRY_TORN = 8;
    private static final int ENTRY_MADE = 9;
    private static final int ENTRY_LENGTH = 10;
    private static final int LOG_LIMIT = 6;

    private static final int MOST_PHASES = 9999;
    private static final int MOST_TICKS_AHEAD = 4000;
    private static final int HISTORY_LIMIT = 4;
    private static final int TEXT_LIMIT = 60;

    // Codes of ten: where all digits are right, they have the order of their numbers.
    private static final int[] FIRST_VALUE = {0x00, 0x00, 0x00, 0x01, 0x01, 0x01, 0x00};
    private static final int[] LAST_VALUE = {0x59, 0x59, 0x23, 0x07, 0x31, 0x12, 0x99};
    private static final int FIRST_WEEKDAY = 6;
    private static final int[] DAYS_AHEAD_OF_MONTH = {0, 31, 59, 90, 120, 151, 181, 212, 243, 273, 304, 334};

    private final Chip now = new Chip();
    private final Chip trial = new Chip();
    private final Burst maker = new Burst();
    private final Order order = new Order();
    private final Chip[] history = new Chip[HISTORY_LIMIT];
    private int historySize;
    private final char[] text = new char[TEXT_LIMIT];
    private int textLength;

    public RollingDigits() {
        for (int i = 0; i < HISTORY_LIMIT; i++) {
            history[i] = new Chip();
        }
    }

    // ---- registers

    public int write(int register, int value) {
        if (!mayWrite(register, value)) {
            return INVALID_ARGUMENT;
        }
        keepState();
        return now.writeRegister(register, value);
    }

    public int read(int register) {
        if (!isRegister(register)) {
            return INVALID_ARGUMENT;
        }
        keepState();
        return now.readRegister(register);
    }

    public int burst(int mode) {
        if (!isMode(mode)) {
            return INVALID_ARGUMENT;
        }
        keepState();
        maker.make(now, mode);
        return maker.entry[ENTRY_TORN];
    }

    public int pass(int phases) {
        if (!mayPass(phases)) {
            return INVALID_ARGUMENT;
        }
        keepState();
        return now.passPhases(phases);
    }

    // ---- alarms

    public int alarm(int alarm, int register, int value) {
        if (!mayChangeAlarm(alarm, register, value)) {
            return INVALID_ARGUMENT;
        }
        keepState();
        return now.alarms.changeValue(alarm, register, value);
    }

    public int arm(int alarm, int mask) {
        if (!isAlarm(alarm) || !isWithin(mask, NOT_ARMED, ALL_MASKED)) {
            return INVALID_ARGUMENT;
        }
        keepState();
        return now.alarms.changeMask(alarm, mask);
    }

    public int clear() {
        keepState();
        int flags = now.alarms.flags;
        now.alarms.flags = 0;
        return flags;
    }

    // ---- cells

    public int fail(int register, int bit, int value) {
        if (!isCell(register, bit) || !isWithin(value, 0, 1)) {
            return INVALID_ARGUMENT;
        }
        if (now.registers.hasFailed(register, bit)) {
            return NOT_POSSIBLE;
        }
        keepState();
        return now.registers.failCell(register, bit, value);
    }

    public int heal(int register, int bit) {
        if (!isCell(register, bit)) {
            return INVALID_ARGUMENT;
        }
        if (!now.registers.hasFailed(register, bit)) {
            return NOT_POSSIBLE;
        }
        keepState();
        now.registers.healCell(register, bit);
        return now.registers.failedCells();
    }

    public int set(int what, int value) {
        if (!isWithin(what, 0, SETTINGS - 1) || !isWithin(value, LEAST_SETTING[what], MOST_SETTING[what])) {
            return INVALID_ARGUMENT;
        }
        keepState();
        return now.changeSetting(what, value);
    }

    // ---- what there is; no time passes

    public int registerOf(int register, int what) {
        if (!isRegister(register) || !isWithin(what, 0, 6)) {
            return INVALID_ARGUMENT;
        }
        Registers registers = now.registers;
        int last = registers.lastValue(register);
        switch (what) {
            case 0: return registers.values[register];
            case 1: return numberOf(registers.values[register]);
            case 2: return registers.whyWrong(register);
            case 3: return numberOf(last);
            case 4: return registers.failed[register];
            case 5: return registers.rolls[register];
            default: return registers.withCells(register, registers.nextValue(register, last));
        }
    }

    public int alarmOf(int alarm, int what) {
        if (!isAlarm(alarm) || !isWithin(what, 0, 9)) {
            return INVALID_ARGUMENT;
        }
        Alarms alarms = now.alarms;
        if (what < ALARM_REGISTERS) {
            return alarms.values[alarm][what];
        }
        switch (what) {
            case 5: return alarms.masks[alarm];
            case 6: return bitOf(alarms.armed, alarm);
            case 7: return bitOf(alarms.flags, alarm);
            case 8: return alarms.came[alarm];
            default: return alarms.matches(alarm, now.registers) ? 1 : 0;
        }
    }

    public int date(int what) {
        if (!isWithin(what, 0, 4)) {
            return INVALID_ARGUMENT;
        }
        Registers registers = now.registers;
        if (what == 3) {
            return numberOf(registers.lastValue(DAY));
        }
        if (!registers.isDateRight()) {
            return NOT_FOUND;
        }
        switch (what) {
            case 0: return registers.daysFromStart();
            case 1: return registers.weekdayByDate();
            case 2: return numberOf(registers.values[WEEKDAY]) == registers.weekdayByDate() ? 1 : 0;
            default: return registers.daysOfYear() - 1 - registers.dayOfYear();
        }
    }

    public int log(int ago, int what) {
        if (ago < 0 || !isWithin(what, 0, ENTRY_LENGTH - 1)) {
            return INVALID_ARGUMENT;
        }
        if (ago >= now.bursts.size) {
            return NOT_FOUND;
        }
        return now.bursts.told(ago, what);
    }

    // ---- what would be

    public int readable() {
        int ahead = now.settings[SECOND_PHASES] - now.phase;
        int readings = 1;
        while (readings < REGISTERS && readings * now.settings[READ_PHASES] < ahead) {
            readings++;
        }
        return readings;
    }

    public int safeIn() {
        int second = now.settings[SECOND_PHASES];
        int untilLastRead = (REGISTERS - 1) * now.settings[READ_PHASES];
        if (now.phase + untilLastRead < second) {
            return 0;
        }
        return untilLastRead < second ? second - now.phase : NOT_FOUND;
    }

    public int ifBurst(int mode, int what) {
        if (!isMode(mode) || !isWithin(what, 0, ENTRY_LENGTH - 1)) {
            return INVALID_ARGUMENT;
        }
        trial.copyFrom(now);
        maker.make(trial, mode);
        return maker.entry[what];
    }

    public int comesIn(int alarm) {
        if (!isAlarm(alarm)) {
            return INVALID_ARGUMENT;
        }
        if (bitOf(now.alarms.armed, alarm) == 0) {
            return NOT_POSSIBLE;
        }
        trial.registers.copyFrom(now.registers);
        for (int ticks = 1; ticks <= MOST_TICKS_AHEAD; ticks++) {
            trial.registers.tick();
            if (now.alarms.matches(alarm, trial.registers)) {
                return ticks;
            }
        }
        return NOT_FOUND;
    }

    public int share() {
        if (now.burstCount == 0) {
            return NOT_FOUND;
        }
        return bitsOfShare((float) now.tornCount / (float) now.burstCount);
    }

    public int count(int what) {
        if (isWithin(what, 20, 20 + SETTINGS - 1)) {
            return now.settings[what - 20];
        }
        switch (what) {
            case 0: return now.phase;
            case 1: return now.tickCount;
            case 2: return now.registers.wrongOnes();
            case 3: return now.alarms.flags;
            case 4: return now.alarms.cameInAll();
            case 5: return now.registers.failedCells();
            case 6: return now.burstCount;
            case 7: return now.tornCount;
            case 8: return now.readCount;
            case 9: return now.writingCount;
            case 10: return now.phaseCount;
            case 11: return now.bursts.size;
            case 12: return historySize;
            case 13: return textLength;
            default: return INVALID_ARGUMENT;
        }
    }

    public int undo() {
        Chip latest = historySize > 0 ? history[historySize - 1] : null;
        if (latest == null) {
            return NOT_POSSIBLE;
        }
        now.copyFrom(latest);
        historySize--;
        return historySize;
    }

    // ---- texts

    public int type(int character) {
        if (!isWithin(character, 32, 126)) {
            return INVALID_ARGUMENT;
        }
        if (textLength >= TEXT_LIMIT) {
            return LIMIT_REACHED;
        }
        text[textLength] = (char) character;
        textLength++;
        return textLength;
    }

    public int clearText() {
        int length = textLength;
        textLength = 0;
        return length;
    }

    public int fault(int what) {
        if (!isWithin(what, 0, 2)) {
            return INVALID_ARGUMENT;
        }
        int position = findFault();
        if (position < 0) {
            return NOT_FOUND;
        }
        switch (what) {
            case 0: return position;
            case 1: return order.isBroken ? 1 : 2;
            default: return order.isBroken ? order.length : INVALID_ARGUMENT;
        }
    }

    public int play() {
        if (findFault() >= 0) {
            return NOT_POSSIBLE;
        }
        keepState();
        int at = 0;
        int orders = 0;
        while (orders < TEXT_LIMIT && at < textLength) {
            order.parse(text, textLength, at);
            int[] numbers = order.numbers;
            switch (order.letter) {
                case 'w': now.writeRegister(numbers[0], numbers[1]); break;
                case 'r': now.readRegister(numbers[0]); break;
                case 'b': maker.make(now, numbers[0]); break;
                case 'p': now.passPhases(numbers[0]); break;
                case 'a': now.alarms.changeValue(numbers[0], numbers[1], numbers[2]); break;
                default: now.alarms.changeMask(numbers[0], numbers[1]); break;
            }
            at += order.length;
            orders++;
        }
        return orders;
    }

    // ---- what the calls share

    /** Every change begins with this; the oldest state's room is taken for the new one. */
    private void keepState() {
        if (historySize >= HISTORY_LIMIT) {
            Chip oldest = history[0];
            for (int i = 1; i < HISTORY_LIMIT; i++) {
                history[i - 1] = history[i];
            }
            history[HISTORY_LIMIT - 1] = oldest;
            historySize = HISTORY_LIMIT - 1;
        }
        Chip room = history[historySize];
        if (room != null) {
            room.copyFrom(now);
            historySize++;
        }
    }

    /**
     * Tells where the first order stands that is not possible, and leaves it in order; -1 if there is none.
     * Nothing has to be done for it: no order's call has an error that depends on those ahead of it.
     */
    private int findFault() {
        int at = 0;
        for (int orders = 0; orders < TEXT_LIMIT && at < textLength; orders++) {
            order.parse(text, textLength, at);
            if (order.isBroken || !mayDo(order)) {
                return at;
            }
            at += order.length;
        }
        return -1;
    }

    private static boolean mayDo(Order order) {
        int[] numbers = order.numbers;
        switch (order.letter) {
            case 'w': return mayWrite(numbers[0], numbers[1]);
            case 'r': return isRegister(numbers[0]);
            case 'b': return isMode(numbers[0]);
            case 'p': return mayPass(numbers[0]);
            case 'a': return mayChangeAlarm(numbers[0], numbers[1], numbers[2]);
            default: return isAlarm(numbers[0]) && isWithin(numbers[1], 0, ALL_MASKED);
        }
    }

    private static boolean mayWrite(int register, int value) {
        return isRegister(register) && isWithin(value, 0, MOST_VALUE);
    }

    private static boolean mayPass(int phases) {
        return isWithin(phases, 1, MOST_PHASES);
    }

    private static boolean mayChangeAlarm(int alarm, int register, int value) {
        return isAlarm(alarm) && isWithin(register, 0, ALARM_REGISTERS - 1) && isWithin(value, 0, MOST_VALUE);
    }

    private static boolean isRegister(int register) {
        return isWithin(register, 0, REGISTERS - 1);
    }

    private static boolean isCell(int register, int bit) {
        return isRegister(register) && isWithin(bit, 0, BITS - 1);
    }

    private static boolean isAlarm(int alarm) {
        return isWithin(alarm, 0, ALARMS - 1);
    }

    private static boolean isMode(int mode) {
        return isWithin(mode, 0, MODES - 1);
    }

    private static boolean isWithin(int number, int least, int most) {
        return number >= least && number <= most;
    }

    private static int bitOf(int ones, int bit) {
        return ones >> bit & 1;
    }

    private static int numberOf(int value) {
        return 10 * (value >> 4) + (value & 15);
    }

    /** The bits of a float from 0 to 1, by doubling, as the library's own way to them is not allowed here. */
    private static int bitsOfShare(float share) {
        if (share <= 0.0f) {
            return 0;
        }
        float fraction = share;
        int exponent = 127;
        while (exponent > 1 && fraction < 1.0f) {
            fraction = fraction * 2.0f;
            exponent--;
        }
        return (exponent << 23) + (int) (fraction * 8388608.0f) - 8388608;
    }

    /** The seven registers and their cells. */
    private static final class Registers {
        final int[] values = new int[REGISTERS];
        final int[] failed = new int[REGISTERS];
        final int[] failedAsOne = new int[REGISTERS];
        final int[] rolls = new int[REGISTERS];

        Registers() {
            System.arraycopy(FIRST_VALUE, 0, values, 0, REGISTERS);
            values[WEEKDAY] = FIRST_WEEKDAY;
        }

        void copyFrom(Registers other) {
            System.arraycopy(other.values, 0, values, 0, REGISTERS);
            System.arraycopy(other.failed, 0, failed, 0, REGISTERS);
            System.arraycopy(other.failedAsOne, 0, failedAsOne, 0, REGISTERS);
            System.arraycopy(other.rolls, 0, rolls, 0, REGISTERS);
        }

        /** The last value that is right; of the day it is the length of the month. */
        int lastValue(int register) {
            if (register != DAY) {
                return LAST_VALUE[register];
            }
            switch (values[MONTH]) {
                case 0x04: case 0x06: case 0x09: case 0x11: return 0x30;
                case 0x02: return isLeapYear() ? 0x29 : 0x28;
                default: return LAST_VALUE[DAY];
            }
        }

        boolean isLeapYear() {
            int upper = values[YEAR] >> 4;
            int lower = values[YEAR] & 15;
            return upper <= 9 && lower <= 9 && (10 * upper + lower) % 4 == 0;
        }

        int whyWrong(int register) {
            int value = values[register];
            if (value >> 4 > 9 || (value & 15) > 9) {
                return 1;
            }
            if (value < FIRST_VALUE[register]) {
                return 2;
            }
            return value > lastValue(register) ? 3 : 0;
        }

        int wrongOnes() {
            int wrong = 0;
            for (int register = 0; register < REGISTERS; register++) {
                if (whyWrong(register) != 0) {
                    wrong |= 1 << register;
                }
            }
            return wrong;
        }

        int withCells(int register, int value) {
            return value & ~failed[register] | failedAsOne[register];
        }

        boolean hasFailed(int register, int bit) {
            return bitOf(failed[register], bit) == 1;
        }

        int failCell(int register, int bit, int value) {
            failed[register] |= 1 << bit;
            failedAsOne[register] |= value << bit;
            values[register] = withCells(register, values[register]);
            return values[register];
        }

        void healCell(int register, int bit) {
            failed[register] &= ~(1 << bit);
            failedAsOne[register] &= ~(1 << bit);
        }

        int failedCells() {
            int cells = 0;
            for (int register = 0; register < REGISTERS; register++) {
                cells += Integer.bitCount(failed[register]);
            }
            return cells;
        }

        /** The value behind a step, before the cells that failed have their say. */
        int nextValue(int register, int last) {
            int value = values[register];
            if (value == last) {
                return FIRST_VALUE[register];
            }
            if ((value & 15) < 9) {
                return value + 1;
            }
            return (value & 0xF0) + 0x10 & 0xFF;
        }

        /** Tells if the register rolls over in the step. */
        boolean stepOn(int register, int last) {
            boolean rollsOver = values[register] == last;
            values[register] = withCells(register, nextValue(register, last));
            if (rollsOver) {
                rolls[register]++;
            }
            return rollsOver;
        }

        void tick() {
            if (stepOn(SECONDS, lastValue(SECONDS)) && stepOn(MINUTES, lastValue(MINUTES))
                && stepOn(HOURS, lastValue(HOURS))) {
                stepOn(WEEKDAY, lastValue(WEEKDAY));
                if (stepOn(DAY, lastValue(DAY)) && stepOn(MONTH, lastValue(MONTH))) {
                    stepOn(YEAR, lastValue(YEAR));
                }
            }
        }

        boolean isDateRight() {
            return whyWrong(DAY) == 0 && whyWrong(MONTH) == 0 && whyWrong(YEAR) == 0;
        }

        int daysOfYear() {
            return isLeapYear() ? 366 : 365;
        }

        /** From 0; the date is right where this is asked. */
        int dayOfYear() {
            int month = numberOf(values[MONTH]);
            if (month < 1 || month > DAYS_AHEAD_OF_MONTH.length) {
                return 0;
            }
            int leapDay = month > 2 && isLeapYear() ? 1 : 0;
            return DAYS_AHEAD_OF_MONTH[month - 1] + leapDay + numberOf(values[DAY]) - 1;
        }

        int daysFromStart() {
            int year = numberOf(values[YEAR]);
            int leapYearsAhead = (year + 3) / 4;
            return 365 * year + leapYearsAhead + dayOfYear();
        }

        int weekdayByDate() {
            return (daysFromStart() + FIRST_WEEKDAY - 1) % 7 + 1;
        }
    }

    /** The three alarms. */
    private static final class Alarms {
        final int[][] values = new int[ALARMS][ALARM_REGISTERS];
        final int[] masks = new int[ALARMS];
        final int[] came = new int[ALARMS];
        int armed;
        int flags;

        Alarms() {
        }

        void copyFrom(Alarms other) {
            for (int alarm = 0; alarm < ALARMS; alarm++) {
                System.arraycopy(other.values[alarm], 0, values[alarm], 0, ALARM_REGISTERS);
            }
            System.arraycopy(other.masks, 0, masks, 0, ALARMS);
            System.arraycopy(other.came, 0, came, 0, ALARMS);
            armed = other.armed;
            flags = other.flags;
        }

        int changeValue(int alarm, int register, int value) {
            int previous = values[alarm][register];
            values[alarm][register] = value;
            return previous;
        }

        int changeMask(int alarm, int mask) {
            int wasArmed = bitOf(armed, alarm);
            if (mask == NOT_ARMED) {
                armed &= ~(1 << alarm);
            } else {
                armed |= 1 << alarm;
                masks[alarm] = mask;
            }
            return wasArmed;
        }

        boolean matches(int alarm, Registers registers) {
            for (int register = 0; register < ALARM_REGISTERS; register++) {
                boolean isMasked = bitOf(masks[alarm], register) == 1;
                if (!isMasked && registers.values[register] != values[alarm][register]) {
                    return false;
                }
            }
            return true;
        }

        void comeIfDue(Registers registers) {
            for (int alarm = 0; alarm < ALARMS; alarm++) {
                if (bitOf(armed, alarm) == 1 && matches(alarm, registers)) {
                    flags |= 1 << alarm;
                    came[alarm]++;
                }
            }
        }

        int cameInAll() {
            int all = 0;
            for (int alarm = 0; alarm < ALARMS; alarm++) {
                all += came[alarm];
            }
            return all;
        }
    }

    /** The latest bursts, in a ring. */
    private static final class BurstLog {
        final int[][] entries = new int[LOG_LIMIT][ENTRY_LENGTH];
        int latest;
        int size;

        BurstLog() {
        }

        void copyFrom(BurstLog other) {
            for (int i = 0; i < LOG_LIMIT; i++) {
                System.arraycopy(other.entries[i], 0, entries[i], 0, ENTRY_LENGTH);
            }
            latest = other.latest;
            size = other.size;
        }

        void add(int[] entry) {
            latest = latest + 1 < LOG_LIMIT ? latest + 1 : 0;
            System.arraycopy(entry, 0, entries[latest], 0, ENTRY_LENGTH);
            if (size < LOG_LIMIT) {
                size++;
            }
        }

        /** ago is below size here. */
        int told(int ago, int what) {
            int place = latest - ago;
            return entries[place < 0 ? place + LOG_LIMIT : place][what];
        }
    }

    /** All that a state of the history records. */
    private static final class Chip {
        final Registers registers = new Registers();
        final Alarms alarms = new Alarms();
        final BurstLog bursts = new BurstLog();
        final int[] settings = new int[SETTINGS];
        int phase;
        int tickCount;
        int phaseCount;
        int readCount;
        int writingCount;
        int burstCount;
        int tornCount;

        Chip() {
            settings[READ_PHASES] = 2;
            settings[BURST_ORDER] = 0;
            settings[SECOND_PHASES] = 16;
        }

        void copyFrom(Chip other) {
            registers.copyFrom(other.registers);
            alarms.copyFrom(other.alarms);
            bursts.copyFrom(other.bursts);
            System.arraycopy(other.settings, 0, settings, 0, SETTINGS);
            phase = other.phase;
            tickCount = other.tickCount;
            phaseCount = other.phaseCount;
            readCount = other.readCount;
            writingCount = other.writingCount;
            burstCount = other.burstCount;
            tornCount = other.tornCount;
        }

        /** Tells if there is a tick in it. */
        boolean passPhase() {
            phaseCount++;
            phase++;
            if (phase < settings[SECOND_PHASES]) {
                return false;
            }
            phase = 0;
            tickCount++;
            registers.tick();
            alarms.comeIfDue(registers);
            return true;
        }

        /** Tells how many ticks there are in them. */
        int passPhases(int phases) {
            int ticks = 0;
            for (int i = 0; i < phases; i++) {
                if (passPhase()) {
                    ticks++;
                }
            }
            return ticks;
        }

        int writeRegister(int register, int value) {
            writingCount++;
            registers.values[register] = registers.withCells(register, value);
            return registers.values[register];
        }

        int readRegister(int register) {
            readCount++;
            int seen = registers.values[register];
            passPhases(settings[READ_PHASES]);
            return seen;
        }

        int changeSetting(int what, int value) {
            int previous = settings[what];
            settings[what] = value;
            if (phase >= settings[SECOND_PHASES]) {
                phase = settings[SECOND_PHASES] - 1;
            }
            return previous;
        }

        void logBurst(int[] entry) {
            burstCount++;
            tornCount += entry[ENTRY_TORN];
            bursts.add(entry);
        }
    }

    /** Makes bursts on a chip, and keeps what the latest one told. */
    private static final class Burst {
        // At the beginning, and behind the ticks up to the last read: at most 6 * 8 phases, in seconds of 4.
        private static final int MOST_SHOWN = 13;

        final int[] entry = new int[ENTRY_LENGTH];
        final int[] toldBefore = new int[REGISTERS];
        final int[][] shown = new int[MOST_SHOWN][REGISTERS];
        int shownCount;

        Burst() {
        }

        void make(Chip chip, int mode) {
            int made = 1;
            if (mode == AT_ONCE) {
                seeAtOnce(chip.registers);
                chip.passPhases(REGISTERS * chip.settings[READ_PHASES]);
            } else {
                readInTurn(chip);
            }
            boolean isAlike = mode != UNTIL_ALIKE;
            while (made < MOST_ALIKE_BURSTS && !isAlike) {
                System.arraycopy(entry, 0, toldBefore, 0, REGISTERS);
                readInTurn(chip);
                made++;
                isAlike = isTold(toldBefore);
            }
            entry[ENTRY_MODE] = mode;
            entry[ENTRY_TORN] = isTorn() ? 1 : 0;
            entry[ENTRY_MADE] = made;
            chip.logBurst(entry);
        }

        void seeAtOnce(Registers registers) {
            shownCount = 0;
            keepShown(registers);
            System.arraycopy(registers.values, 0, entry, 0, REGISTERS);
        }

        void readInTurn(Chip chip) {
            shownCount = 0;
            keepShown(chip.registers);
            for (int turn = 0; turn < REGISTERS; turn++) {
                int register = chip.settings[BURST_ORDER] == 0 ? turn : REGISTERS - 1 - turn;
                entry[register] = chip.registers.values[register];
                for (int i = 0; i < chip.settings[READ_PHASES]; i++) {
                    // What is shown behind the last read is too late for a burst to have told it.
                    if (chip.passPhase() && turn < REGISTERS - 1) {
                        keepShown(chip.registers);
                    }
                }
            }
        }

        void keepShown(Registers registers) {
            if (shownCount < MOST_SHOWN) {
                System.arraycopy(registers.values, 0, shown[shownCount], 0, REGISTERS);
                shownCount++;
            }
        }

        boolean isTorn() {
            for (int i = 0; i < shownCount && i < MOST_SHOWN; i++) {
                if (isTold(shown[i])) {
                    return false;
                }
            }
            return true;
        }

        boolean isTold(int[] values) {
            for (int register = 0; register < REGISTERS && register < values.length; register++) {
                if (values[register] != entry[register]) {
                    return false;
                }
            }
            return true;
        }
    }

    /** An order of a text. */
    private static final class Order {
        private static final int MOST_NUMBERS = 3;
        private static final int MOST_DIGITS = 3;

        final int[] numbers = new int[MOST_NUMBERS];
        char letter;
        boolean isBroken;
        /** With its ";"; of a broken one it is only as far as it is of an order's form. */
        int length;

        Order() {
        }

        static int numbersBehind(char letter) {
            switch (letter) {
                case 'r': case 'b': case 'p': return 1;
                case 'w': case 'm': return 2;
                case 'a': return MOST_NUMBERS;
                default: return 0;
            }
        }

        /** Start is below end, and end at most the length of the text. */
        void parse(char[] text, int end, int start) {
            letter = text[start];
            int wanted = numbersBehind(letter);
            int at = wanted > 0 ? start + 1 : start;
            isBroken = wanted == 0;
            for (int i = 0; i < wanted && !isBroken; i++) {
                int digitsEnd = endOfDigits(text, end, at);
                char closing = i < wanted - 1 ? ',' : ';';
                isBroken = digitsEnd == at || digitsEnd >= end || text[digitsEnd] != closing;
                numbers[i] = numberIn(text, at, digitsEnd);
                at = isBroken ? digitsEnd : digitsEnd + 1;
            }
            length = at - start;
        }

        static int endOfDigits(char[] text, int end, int from) {
            int at = from;
            while (at < end && at < from + MOST_DIGITS && text[at] >= '0' && text[at] <= '9') {
                at++;
            }
            return at;
        }

        static int numberIn(char[] text, int from, int to) {
            int number = 0;
            for (int at = from; at < to; at++) {
                number = 10 * number + text[at] - '0';
            }
            return number;
        }
    }
}
