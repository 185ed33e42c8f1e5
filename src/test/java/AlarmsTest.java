/** Promises 6 to 8: alarm, arm, clear. */
public final class AlarmsTest {
    public static void main(String[] args) {
        promise6Alarm();
        promise7Arm();
        promise7Matching();
        promise8Clear();
        Checks.end("AlarmsTest");
    }

    private static void promise6Alarm() {
        Chip chip = new Chip();
        for (int alarm = 0; alarm < 3; alarm++) {
            for (int register = 0; register < 5; register++) {
                int value = 255 - 10 * alarm - register;
                Checks.due("first value", 0, chip.alarm(alarm, register, value));
            }
        }
        for (int alarm = 0; alarm < 3; alarm++) {
            for (int register = 0; register < 5; register++) {
                int value = 255 - 10 * alarm - register;
                Checks.due("value", value, chip.alarmOf(alarm, register));
                Checks.due("previous value", value, chip.alarm(alarm, register, 0));
            }
        }
        Checks.due("states", 4, chip.count(12));
        Checks.due("no time", 0, chip.count(10));
        int[][] wrong = {{-1, 0, 0}, {3, 0, 0}, {0, -1, 0}, {0, 5, 0}, {0, 0, -1}, {0, 0, 256}};
        String before = Checks.stateOf(chip);
        for (int[] call : wrong) {
            Checks.due("alarm out of range", Checks.INVALID, chip.alarm(call[0], call[1], call[2]));
        }
        Checks.same("errors of alarm change nothing", before, Checks.stateOf(chip));
    }

    private static void promise7Arm() {
        Chip chip = new Chip();
        Checks.due("arm(1, 17)", 0, chip.arm(1, 17));
        Checks.due("armed", 1, chip.alarmOf(1, 6));
        Checks.due("mask", 17, chip.alarmOf(1, 5));
        Checks.due("arm(1, 31)", 1, chip.arm(1, 31));
        Checks.due("mask", 31, chip.alarmOf(1, 5));
        chip.pass(16);
        Checks.due("arm(1, -1)", 1, chip.arm(1, -1));
        Checks.due("mask is kept", 31, chip.alarmOf(1, 5));
        Checks.due("flag stays", 1, chip.alarmOf(1, 7));
        Checks.due("not armed", 0, chip.alarmOf(1, 6));
        Checks.due("arm(1, -1)", 0, chip.arm(1, -1));
        Checks.due("states", 4, chip.count(12));
        chip.pass(16);
        Checks.due("not armed: comes no more", 1, chip.alarmOf(1, 8));
        Checks.due("arm(0, 0)", 0, chip.arm(0, 0));
        Checks.due("arm(-1, 0)", Checks.INVALID, chip.arm(-1, 0));
        Checks.due("arm(3, 0)", Checks.INVALID, chip.arm(3, 0));
        Checks.due("arm(0, -2)", Checks.INVALID, chip.arm(0, -2));
        Checks.due("arm(0, 32)", Checks.INVALID, chip.arm(0, 32));
        Checks.due("still armed", 1, chip.alarmOf(0, 6));
    }

    private static void promise7Matching() {
        for (int register = 0; register < 5; register++) {
            Chip chip = new Chip();
            int[] atTick = {1, 0, 0, 6, 1};
            for (int other = 0; other < 5; other++) {
                chip.alarm(0, other, atTick[other]);
            }
            chip.alarm(0, register, 77);
            chip.arm(0, 0);
            chip.pass(16);
            Checks.due("another value in " + register, 0, chip.alarmOf(0, 7));
            chip.undo();
            chip.arm(0, 1 << register);
            chip.pass(16);
            Checks.due("masked " + register, 1, chip.alarmOf(0, 7));
        }
        Chip chip = new Chip();
        chip.arm(0, 30);
        Checks.due("matching comes at ticks only", 0, chip.alarmOf(0, 7));
        chip.pass(15);
        chip.write(0, 0x59);
        chip.arm(2, 31);
        chip.pass(1);
        Checks.due("behind the step of the registers", 1, chip.alarmOf(0, 7));
        Checks.due("flags", 5, chip.count(3));
        Checks.due("it came", 1, chip.alarmOf(0, 8));
        chip.write(0, 0);
        chip.arm(0, 30);
        Checks.due("not again by writing", 1, chip.alarmOf(0, 8));
    }

    private static void promise8Clear() {
        Chip chip = new Chip();
        chip.arm(0, 31);
        chip.arm(2, 31);
        chip.pass(16);
        Checks.due("clear()", 5, chip.clear());
        Checks.due("flags", 0, chip.count(3));
        Checks.due("still armed", 1, chip.alarmOf(2, 6));
        Checks.due("came stays", 1, chip.alarmOf(2, 8));
        Checks.due("clear() without flags", 0, chip.clear());
        Checks.due("both are changes", 4, chip.count(12));
        Checks.due("undo()", 3, chip.undo());
        Checks.due("no flags", 0, chip.count(3));
        chip.undo();
        Checks.due("flags are back", 5, chip.count(3));
    }
}
