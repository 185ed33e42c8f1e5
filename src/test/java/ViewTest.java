import java.time.LocalDate;
import java.time.temporal.ChronoUnit;

/** Promises 12 to 15: registerOf, alarmOf, date, log. */
public final class ViewTest {
    public static void main(String[] args) {
        promise12WhyWrong();
        promise12Rest();
        promise13AlarmOf();
        promise14EveryDay();
        promise14NotRight();
        promise15Log();
        Checks.end("ViewTest");
    }

    private static void promise12WhyWrong() {
        // register, value, number, why
        int[][] cases = {{0, 0x00, 0, 0}, {0, 0x59, 59, 0}, {0, 0x60, 60, 3}, {0, 0x5A, 60, 1}, {0, 0xA0, 100, 1},
            {0, 0xFF, 165, 1}, {0, 0x99, 99, 3}, {1, 0x59, 59, 0}, {1, 0x60, 60, 3}, {2, 0x23, 23, 0}, {2, 0x24, 24, 3},
            {2, 0x0F, 15, 1}, {3, 0x00, 0, 2}, {3, 0x01, 1, 0}, {3, 0x07, 7, 0}, {3, 0x08, 8, 3}, {4, 0x00, 0, 2},
            {4, 0x01, 1, 0}, {4, 0x31, 31, 0}, {4, 0x32, 32, 3}, {4, 0x0A, 10, 1}, {5, 0x00, 0, 2}, {5, 0x01, 1, 0},
            {5, 0x12, 12, 0}, {5, 0x13, 13, 3}, {5, 0x0C, 12, 1}, {6, 0x00, 0, 0}, {6, 0x99, 99, 0}, {6, 0x9A, 100, 1},
            {6, 0xA0, 100, 1}};
        for (int[] one : cases) {
            Chip chip = new Chip();
            chip.write(one[0], one[1]);
            Checks.due("value", one[1], chip.registerOf(one[0], 0));
            Checks.due("number of " + one[1], one[2], chip.registerOf(one[0], 1));
            Checks.due("why " + one[1] + " is not right in " + one[0], one[3], chip.registerOf(one[0], 2));
            Checks.due("wrong ones", one[3] == 0 ? 0 : 1 << one[0], chip.count(2));
        }
    }

    private static void promise12Rest() {
        Chip chip = new Chip();
        int[] last = {59, 59, 23, 7, 31, 12, 99};
        int[] next = {1, 1, 1, 7, 2, 2, 1};
        for (int register = 0; register < 7; register++) {
            Checks.due("last number of " + register, last[register], chip.registerOf(register, 3));
            Checks.due("next value of " + register, next[register], chip.registerOf(register, 6));
        }
        chip.write(5, 4);
        Checks.due("last day of April", 30, chip.registerOf(4, 3));
        chip.write(4, 0x31);
        Checks.due("31 of April", 3, chip.registerOf(4, 2));
        Checks.due("it steps on", 0x32, chip.registerOf(4, 6));
        chip.write(4, 0x30);
        Checks.due("30 of April", 0x01, chip.registerOf(4, 6));
        chip.fail(4, 5, 1);
        chip.fail(4, 0, 0);
        Checks.due("its cells", 0x21, chip.registerOf(4, 4));
        Checks.due("the last day is told ahead of its cells", 0x20, chip.registerOf(4, 6));
        Checks.due("nothing stepped on", 0x30, chip.registerOf(4, 0));
        Checks.due("nothing rolled over", 0, chip.registerOf(4, 5));
        Checks.due("registerOf(-1, 0)", Checks.INVALID, chip.registerOf(-1, 0));
        Checks.due("registerOf(7, 0)", Checks.INVALID, chip.registerOf(7, 0));
        Checks.due("registerOf(0, -1)", Checks.INVALID, chip.registerOf(0, -1));
        Checks.due("registerOf(0, 7)", Checks.INVALID, chip.registerOf(0, 7));
    }

    private static void promise13AlarmOf() {
        Chip chip = new Chip();
        Checks.due("weekday and day are not 0", 0, chip.alarmOf(0, 9));
        chip.alarm(0, 3, 6);
        Checks.due("the day is not 0", 0, chip.alarmOf(0, 9));
        chip.alarm(0, 4, 1);
        Checks.due("all are alike, also if it is not armed", 1, chip.alarmOf(0, 9));
        Checks.due("not armed", 0, chip.alarmOf(0, 6));
        chip.write(5, 9);
        chip.write(6, 9);
        Checks.due("month and year are no matter", 1, chip.alarmOf(0, 9));
        chip.arm(1, 31);
        Checks.due("all masked", 1, chip.alarmOf(1, 9));
        Checks.due("mask", 31, chip.alarmOf(1, 5));
        chip.pass(48);
        Checks.due("flag", 1, chip.alarmOf(1, 7));
        Checks.due("came", 3, chip.alarmOf(1, 8));
        Checks.due("matches no more", 0, chip.alarmOf(0, 9));
        Checks.due("alarmOf(-1, 0)", Checks.INVALID, chip.alarmOf(-1, 0));
        Checks.due("alarmOf(3, 0)", Checks.INVALID, chip.alarmOf(3, 0));
        Checks.due("alarmOf(0, -1)", Checks.INVALID, chip.alarmOf(0, -1));
        Checks.due("alarmOf(0, 10)", Checks.INVALID, chip.alarmOf(0, 10));
    }

    private static int code(int number) {
        return 16 * (number / 10) + number % 10;
    }

    private static void promise14EveryDay() {
        LocalDate first = LocalDate.of(2000, 1, 1);
        for (int days = 0; days < 36525; days += days < 2000 ? 1 : 13) {
            LocalDate day = first.plusDays(days);
            Chip chip = new Chip();
            Checks.setTime(chip, code(day.getYear() - 2000), code(day.getMonthValue()), code(day.getDayOfMonth()));
            Checks.due("date(0) of " + day, days, chip.date(0));
            Checks.due("date(1) of " + day, day.getDayOfWeek().getValue(), chip.date(1));
            Checks.due("date(2) of " + day, day.getDayOfWeek().getValue() == 6 ? 1 : 0, chip.date(2));
            Checks.due("date(3) of " + day, day.lengthOfMonth(), chip.date(3));
            LocalDate end = LocalDate.of(day.getYear(), 12, 31);
            Checks.due("date(4) of " + day, ChronoUnit.DAYS.between(day, end), chip.date(4));
        }
    }

    private static void promise14NotRight() {
        int[][] wrong = {{4, 0x32}, {4, 0x00}, {4, 0x0A}, {5, 0x00}, {5, 0x13}, {5, 0x0B}, {6, 0x9A}, {6, 0xA0}};
        for (int[] one : wrong) {
            Chip chip = new Chip();
            chip.write(one[0], one[1]);
            for (int what = 0; what <= 4; what++) {
                Checks.due("date(" + what + ")", what == 3 ? 31 : Checks.NONE, chip.date(what));
            }
            Checks.due("date(5)", Checks.INVALID, chip.date(5));
            Checks.due("date(-1)", Checks.INVALID, chip.date(-1));
        }
        Chip chip = new Chip();
        chip.write(5, 2);
        chip.write(6, 1);
        chip.write(4, 0x29);
        Checks.due("29 of February in year 1", Checks.NONE, chip.date(0));
        Checks.due("its length", 28, chip.date(3));
        chip.write(6, 0);
        Checks.due("29 of February in year 0", 59, chip.date(0));
        chip.write(3, 0x12);
        chip.write(2, 0xFF);
        Checks.due("weekday not right", 0, chip.date(2));
        Checks.due("weekday by the date", 2, chip.date(1));
        chip.write(3, 2);
        Checks.due("weekday right", 1, chip.date(2));
    }

    private static void promise15Log() {
        Chip chip = new Chip();
        Checks.due("no burst", Checks.NONE, chip.log(0, 0));
        for (int i = 1; i <= 8; i++) {
            chip.write(6, i);
            chip.burst(i % 3);
            Checks.due("entries", Math.min(i, 6), chip.count(11));
            for (int ago = 0; ago < 7; ago++) {
                boolean is = ago < i && ago < 6;
                Checks.due("year " + ago + " ago", is ? i - ago : Checks.NONE, chip.log(ago, 6));
                Checks.due("mode " + ago + " ago", is ? (i - ago) % 3 : Checks.NONE, chip.log(ago, 7));
                Checks.due("made " + ago + " ago", !is ? Checks.NONE : (i - ago) % 3 == 2 ? 2 : 1,
                    chip.log(ago, 9) > 2 ? 2 : chip.log(ago, 9));
            }
        }
        Checks.due("log(MAX, 0)", Checks.NONE, chip.log(Integer.MAX_VALUE, 0));
        Checks.due("log(MAX, 10)", Checks.INVALID, chip.log(Integer.MAX_VALUE, 10));
        Checks.due("log(-1, 0)", Checks.INVALID, chip.log(-1, 0));
        Checks.due("log(MIN, 0)", Checks.INVALID, chip.log(Integer.MIN_VALUE, 0));
        Checks.due("log(0, -1)", Checks.INVALID, chip.log(0, -1));
        Checks.due("log(0, 10)", Checks.INVALID, chip.log(0, 10));
    }
}
