/** Promises 1 to 5: a new object, write, read, burst, pass. */
public final class RegistersTest {
    public static void main(String[] args) {
        promise1NewObject();
        promise2Write();
        promise3Read();
        promise4BurstInTurn();
        promise4BurstAtOnce();
        promise4BurstUntilAlike();
        promise4LastReadEndsTheTear();
        promise4ManyTicks();
        promise4LastOfManyIsTorn();
        promise4EachBurstForItself();
        promise5Pass();
        promise5Months();
        promise5WrongDigits();
        Checks.end("RegistersTest");
    }

    private static void promise1NewObject() {
        Chip chip = new Chip();
        int[] first = {0, 0, 0, 6, 1, 1, 0};
        for (int register = 0; register < 7; register++) {
            Checks.due("new registerOf(" + register + ", 0)", first[register], chip.registerOf(register, 0));
            Checks.due("new registerOf(" + register + ", 4)", 0, chip.registerOf(register, 4));
            Checks.due("new registerOf(" + register + ", 5)", 0, chip.registerOf(register, 5));
        }
        for (int alarm = 0; alarm < 3; alarm++) {
            for (int what = 0; what <= 8; what++) {
                Checks.due("new alarmOf(" + alarm + ", " + what + ")", 0, chip.alarmOf(alarm, what));
            }
        }
        for (int what = 0; what <= 13; what++) {
            Checks.due("new count(" + what + ")", 0, chip.count(what));
        }
        Checks.due("new count(20)", 2, chip.count(20));
        Checks.due("new count(21)", 0, chip.count(21));
        Checks.due("new count(22)", 16, chip.count(22));
        Chip other = new Chip();
        chip.write(0, 0x33);
        Checks.due("another object", 0, other.registerOf(0, 0));
    }

    private static void promise2Write() {
        Chip chip = new Chip();
        for (int register = 0; register < 7; register++) {
            Checks.due("write 255", 255, chip.write(register, 255));
            Checks.due("it has it", 255, chip.registerOf(register, 0));
            Checks.due("write 0", 0, chip.write(register, 0));
        }
        Checks.due("writings", 14, chip.count(9));
        Checks.due("no phases", 0, chip.count(10));
        Checks.due("states", 4, chip.count(12));
        chip.fail(2, 7, 1);
        chip.fail(2, 0, 0);
        Checks.due("write by cells", 0x82, chip.write(2, 0x03));
        String before = Checks.stateOf(chip);
        Checks.due("write(-1, 0)", Checks.INVALID, chip.write(-1, 0));
        Checks.due("write(7, 0)", Checks.INVALID, chip.write(7, 0));
        Checks.due("write(0, -1)", Checks.INVALID, chip.write(0, -1));
        Checks.due("write(0, 256)", Checks.INVALID, chip.write(0, 256));
        Checks.due("write(MIN, MAX)", Checks.INVALID, chip.write(Integer.MIN_VALUE, Integer.MAX_VALUE));
        Checks.same("errors of write change nothing", before, Checks.stateOf(chip));
    }

    private static void promise3Read() {
        Chip chip = new Chip();
        Checks.due("read weekday", 6, chip.read(3));
        Checks.due("phase behind it", 2, chip.count(0));
        chip.set(0, 8);
        chip.pass(6);
        Checks.due("read(0) is seen ahead of the tick", 0, chip.read(0));
        Checks.due("and the tick follows", 1, chip.registerOf(0, 0));
        Checks.due("reads", 2, chip.count(8));
        Checks.due("phases", 16, chip.count(10));
        Checks.due("states", 4, chip.count(12));
        chip.set(0, 0);
        Checks.due("read in no time", 1, chip.read(0));
        Checks.due("phase", 0, chip.count(0));
        Checks.due("no bursts", 0, chip.count(6));
        Checks.due("read(7)", Checks.INVALID, chip.read(7));
        Checks.due("read(-1)", Checks.INVALID, chip.read(-1));
        Checks.due("reads", 3, chip.count(8));
    }

    private static void promise4BurstInTurn() {
        Chip chip = new Chip();
        Checks.setTime(chip, 0, 1, 1, 0x23, 0x59, 0x59);
        chip.pass(13);
        Checks.due("torn behind the second register", 1, chip.burst(0));
        int[] told = {0x59, 0x59, 0, 7, 2, 1, 0, 0, 1, 1};
        for (int what = 0; what < told.length; what++) {
            Checks.due("log(0, " + what + ")", told[what], chip.log(0, what));
        }
        Checks.due("phase", 11, chip.count(0));
        chip.undo();
        chip.set(1, 1);
        Checks.due("backwards: only the month is read ahead, and stays", 0, chip.burst(0));
        Checks.due("day of the other time", 2, chip.log(0, 4));
        Checks.due("seconds of the other time", 0, chip.log(0, 0));
        chip.undo();
        chip.write(4, 0x31);
        Checks.due("backwards: the month is read ahead, and rolls on", 1, chip.burst(0));
        int[] backwards = {0, 0, 0, 7, 1, 1, 0, 0, 1, 1};
        for (int what = 0; what < backwards.length; what++) {
            Checks.due("backwards log(0, " + what + ")", backwards[what], chip.log(0, what));
        }
        Checks.due("month by now", 2, chip.registerOf(5, 0));
        Checks.due("bursts", 1, chip.count(6));
        Checks.due("torn ones", 1, chip.count(7));
        Checks.due("reads of single registers", 0, chip.count(8));
        Checks.due("burst(3)", Checks.INVALID, chip.burst(3));
        Checks.due("burst(-1)", Checks.INVALID, chip.burst(-1));
        Checks.due("bursts", 1, chip.count(6));
    }

    private static void promise4BurstAtOnce() {
        Chip chip = new Chip();
        Checks.setTime(chip, 0, 1, 1, 0x23, 0x59, 0x59);
        chip.pass(15);
        Checks.due("never torn", 0, chip.burst(1));
        Checks.due("seconds", 0x59, chip.log(0, 0));
        Checks.due("day", 1, chip.log(0, 4));
        Checks.due("mode", 1, chip.log(0, 7));
        Checks.due("made", 1, chip.log(0, 9));
        Checks.due("14 phases passed", 13, chip.count(0));
        Checks.due("phases", 29, chip.count(10));
        Checks.due("the tick came", 0, chip.registerOf(0, 0));
        chip.set(0, 8);
        chip.set(2, 4);
        chip.burst(0);
        Checks.due("not torn behind a burst of many ticks", 0, chip.burst(1));
    }

    private static void promise4BurstUntilAlike() {
        Chip chip = new Chip();
        chip.set(2, 60);
        Checks.due("burst(2)", 0, chip.burst(2));
        Checks.due("two are alike", 2, chip.log(0, 9));
        Checks.due("phases", 28, chip.count(10));
        Checks.due("one burst", 1, chip.count(6));
        Checks.due("one entry", 1, chip.count(11));
        chip.pass(20);
        Checks.due("the third burst ahead of a tick", 0, chip.burst(2));
        Checks.due("first 0, then 1, then 1", 3, chip.log(0, 9));
        Checks.due("tells 1", 1, chip.log(0, 0));
        chip.set(0, 8);
        chip.set(2, 4);
        Checks.due("never alike", 0, chip.burst(2));
        Checks.due("at most 5", 5, chip.log(0, 9));
        Checks.due("the last one is told", 1 + 4 * 14, 10 * (chip.log(0, 0) >> 4) + (chip.log(0, 0) & 15));
    }

    private static void promise4LastReadEndsTheTear() {
        // The cells 0x58 let the seconds be 0x59 again two ticks later, with another minute: what was told.
        // phases ahead of the burst; torn, as that tick is 51, 49 or 48 phases behind the first read
        int[][] begins = {{37, 1}, {39, 1}, {40, 0}};
        for (int[] begin : begins) {
            Chip chip = new Chip();
            chip.set(0, 8);
            chip.set(2, 44);
            chip.fail(0, 6, 1);
            chip.fail(0, 4, 1);
            chip.fail(0, 3, 1);
            chip.write(0, 0x59);
            chip.pass(begin[0]);
            Checks.due("begun at " + begin[0], begin[1], chip.burst(0));
            Checks.due("seconds", 0x59, chip.log(0, 0));
            Checks.due("minutes", 0x01, chip.log(0, 1));
            Checks.due("ticks", 2, chip.count(1));
            Checks.due("shown by then", 0x59, chip.registerOf(0, 0));
            Checks.due("shown by then", 0x01, chip.registerOf(1, 0));
        }
    }

    private static void promise4ManyTicks() {
        Chip chip = new Chip();
        chip.set(0, 8);
        chip.set(2, 4);
        Checks.due("only seconds change", 0, chip.burst(0));
        chip.write(0, 0x58);
        Checks.due("told 58 seconds of the next minute", 1, chip.burst(0));
        Checks.due("minute", 1, chip.log(0, 1));
        chip.set(1, 1);
        // seconds and minute at first; seconds and minute told; torn
        int[][] runs = {{0x59, 0x10, 0x11, 0x11, 0}, {0x49, 0x10, 0x01, 0x10, 1}, {0x50, 0x10, 0x02, 0x11, 0},
            {0x48, 0x10, 0x00, 0x10, 1}, {0x47, 0x10, 0x59, 0x10, 0}};
        for (int[] run : runs) {
            chip.write(0, run[0]);
            chip.write(1, run[1]);
            Checks.due("backwards from " + run[0], run[4], chip.burst(0));
            Checks.due("seconds", run[2], chip.log(0, 0));
            Checks.due("minute", run[3], chip.log(0, 1));
        }
    }

    private static void promise4LastOfManyIsTorn() {
        Chip chip = slowChip(0x57, 29);
        chip.burst(0);
        Checks.due("the second burst would be torn", 1, chip.burst(0));
        chip = slowChip(0x57, 29);
        Checks.due("but the fifth one is told", 0, chip.burst(2));
        Checks.due("made", 5, chip.log(0, 9));
        Checks.due("torn ones", 0, chip.count(7));
        chip = slowChip(0x52, 10);
        Checks.due("the fifth one is torn", 1, chip.burst(2));
        Checks.due("made", 5, chip.log(0, 9));
        Checks.due("seconds", 0x59, chip.log(0, 0));
        Checks.due("minutes", 0x01, chip.log(0, 1));
        Checks.due("torn ones", 1, chip.count(7));
    }

    /** What an earlier burst was shown does not mend the tear of a later one. */
    private static void promise4EachBurstForItself() {
        Chip chip = new Chip();
        chip.set(0, 8);
        chip.set(2, 4);
        for (int seconds = 0x50; seconds < 0x60; seconds++) {
            chip.write(1, 0x01);
            chip.write(0, seconds);
            chip.burst(0);
            chip.set(2, 16);
            chip.set(0, 2);
            chip.pass(31 - chip.count(0));
            chip.write(1, 0x00);
            chip.write(0, 0x59);
            Checks.due("torn behind a burst of " + seconds, 1, chip.burst(0));
            Checks.due("seconds", 0x59, chip.log(0, 0));
            Checks.due("minutes", 0x01, chip.log(0, 1));
            chip.set(0, 8);
            chip.set(2, 4);
        }
    }

    /** Bursts of 56 phases, ticks each 30 phases: two bursts never are alike. */
    private static Chip slowChip(int seconds, int phase) {
        Chip chip = new Chip();
        chip.set(0, 8);
        chip.set(2, 30);
        chip.write(0, seconds);
        chip.pass(phase);
        return chip;
    }

    private static void promise5Pass() {
        Chip chip = new Chip();
        Checks.due("pass(15)", 0, chip.pass(15));
        Checks.due("pass(1)", 1, chip.pass(1));
        Checks.due("pass(9999)", 624, chip.pass(9999));
        Checks.due("phase", 15, chip.count(0));
        Checks.due("ticks", 625, chip.count(1));
        Checks.due("seconds", 0x25, chip.registerOf(0, 0));
        Checks.due("minutes", 0x10, chip.registerOf(1, 0));
        Checks.due("rolls", 10, chip.registerOf(0, 5));
        Checks.due("phases", 10015, chip.count(10));
        Checks.due("pass(0)", Checks.INVALID, chip.pass(0));
        Checks.due("pass(-1)", Checks.INVALID, chip.pass(-1));
        Checks.due("pass(10000)", Checks.INVALID, chip.pass(10000));
        Checks.due("phases", 10015, chip.count(10));
        Checks.setTime(chip, 0x99, 0x12, 0x31, 0x23, 0x59, 0x59);
        chip.write(3, 7);
        chip.pass(1);
        int[] next = {0, 0, 0, 1, 1, 1, 0};
        int[] rolls = {11, 1, 1, 1, 1, 1, 1};
        for (int register = 0; register < 7; register++) {
            Checks.due("all roll over " + register, next[register], chip.registerOf(register, 0));
            Checks.due("rolled over " + register, rolls[register], chip.registerOf(register, 5));
        }
    }

    private static void promise5Months() {
        // year, month, last day
        int[][] months = {{0x01, 0x01, 0x31}, {0x01, 0x02, 0x28}, {0x04, 0x02, 0x29}, {0x00, 0x02, 0x29},
            {0x9A, 0x02, 0x28}, {0xA0, 0x02, 0x28}, {0x12, 0x02, 0x29}, {0x18, 0x02, 0x28}, {0x01, 0x03, 0x31},
            {0x01, 0x04, 0x30}, {0x01, 0x05, 0x31}, {0x01, 0x06, 0x30}, {0x01, 0x07, 0x31}, {0x01, 0x08, 0x31},
            {0x01, 0x09, 0x30}, {0x01, 0x10, 0x31}, {0x01, 0x11, 0x30}, {0x01, 0x12, 0x31}, {0x01, 0x0B, 0x31},
            {0x01, 0x00, 0x31}, {0x01, 0x13, 0x31}, {0x01, 0x14, 0x31}};
        for (int[] month : months) {
            Chip chip = new Chip();
            chip.set(2, 4);
            Checks.setTime(chip, month[0], month[1], month[2] - 1, 0x23, 0x59, 0x59);
            chip.pass(4);
            Checks.due("not yet " + month[1], month[2], chip.registerOf(4, 0));
            Checks.setTime(chip, month[0], month[1], month[2], 0x23, 0x59, 0x59);
            chip.pass(4);
            Checks.due("first day behind " + month[1], 1, chip.registerOf(4, 0));
        }
    }

    private static void promise5WrongDigits() {
        int[][] steps = {{0x09, 0x10}, {0x0A, 0x10}, {0x0F, 0x10}, {0x1A, 0x20}, {0x60, 0x61}, {0x99, 0xA0},
            {0xA5, 0xA6}, {0xF8, 0xF9}, {0xF9, 0x00}, {0xFF, 0x00}, {0x59, 0x00}, {0x58, 0x59}};
        for (int[] step : steps) {
            Chip chip = new Chip();
            chip.write(0, step[0]);
            chip.pass(16);
            Checks.due("step on from " + step[0], step[1], chip.registerOf(0, 0));
            Checks.due("only 59 rolls over", step[0] == 0x59 ? 1 : 0, chip.registerOf(1, 0));
        }
        Chip chip = new Chip();
        Checks.setTime(chip, 0, 1, 0, 0x23, 0x59, 0x59);
        chip.write(3, 0);
        chip.pass(16);
        Checks.due("day 0 steps on", 1, chip.registerOf(4, 0));
        Checks.due("weekday 0 steps on", 1, chip.registerOf(3, 0));
        Checks.setTime(chip, 0, 4, 0x31, 0x23, 0x59, 0x59);
        chip.pass(16);
        Checks.due("day 31 of April goes on", 0x32, chip.registerOf(4, 0));
        Checks.due("month stays", 4, chip.registerOf(5, 0));
    }
}
