/** What the tests share: they count wrong answers, and end with exit code 1 if there was one. */
final class Checks {
    static final int INVALID = -1000001;
    static final int IMPOSSIBLE = -1000002;
    static final int LIMIT = -1000003;
    static final int NONE = -1000004;

    private static int asked = 0;
    private static int wrong = 0;

    private Checks() {
    }

    static void due(String call, long want, long got) {
        asked++;
        if (want != got) {
            wrong++;
            System.out.println(call + " answered " + got + ", due is " + want);
        }
    }

    static void end(String test) {
        System.out.println(test + ": " + asked + " answers asked, " + wrong + " wrong");
        if (asked == 0 || wrong != 0) {
            System.exit(1);
        }
    }

    static void type(RollingDigits chip, String orders) {
        for (int i = 0; i < orders.length(); i++) {
            chip.type(orders.charAt(i));
        }
    }

    static void retype(RollingDigits chip, String orders) {
        chip.clearText();
        type(chip, orders);
    }

    /** Everything that can be asked of a chip, but for the history and the text. */
    static String stateOf(RollingDigits chip) {
        StringBuilder state = new StringBuilder();
        for (int register = 0; register < 7; register++) {
            for (int what = 0; what <= 6; what++) {
                state.append(chip.registerOf(register, what)).append(' ');
            }
        }
        for (int alarm = 0; alarm < 3; alarm++) {
            for (int what = 0; what <= 9; what++) {
                state.append(chip.alarmOf(alarm, what)).append(' ');
            }
        }
        for (int what = 0; what <= 11; what++) {
            state.append(chip.count(what)).append(' ');
        }
        for (int what = 20; what <= 22; what++) {
            state.append(chip.count(what)).append(' ');
        }
        for (int ago = 0; ago < 7; ago++) {
            for (int what = 0; what <= 9; what++) {
                state.append(chip.log(ago, what)).append(' ');
            }
        }
        return state.toString();
    }

    static void same(String what, String want, String got) {
        due(what, 1, want.equals(got) ? 1 : 0);
    }

    /** Year, month, day, hours, minutes, seconds in codes of ten. */
    static void setTime(RollingDigits chip, int... codes) {
        int[] registers = {6, 5, 4, 2, 1, 0};
        for (int i = 0; i < codes.length; i++) {
            chip.write(registers[i], codes[i]);
        }
    }
}
