/** A RollingDigits that counts its calls: the document promises nothing about an object behind its 512th one. */
final class Chip {
    static final int MOST_CALLS = 512;

    private final RollingDigits digits = new RollingDigits();
    private int calls = 0;

    int callsLeft() {
        return MOST_CALLS - calls;
    }

    private RollingDigits used() {
        calls++;
        if (calls > MOST_CALLS) {
            throw new IllegalStateException("a test makes more than 512 calls of one object");
        }
        return digits;
    }

    int write(int register, int value) {
        return used().write(register, value);
    }

    int read(int register) {
        return used().read(register);
    }

    int burst(int mode) {
        return used().burst(mode);
    }

    int pass(int phases) {
        return used().pass(phases);
    }

    int alarm(int alarm, int register, int value) {
        return used().alarm(alarm, register, value);
    }

    int arm(int alarm, int mask) {
        return used().arm(alarm, mask);
    }

    int clear() {
        return used().clear();
    }

    int fail(int register, int bit, int value) {
        return used().fail(register, bit, value);
    }

    int heal(int register, int bit) {
        return used().heal(register, bit);
    }

    int set(int what, int value) {
        return used().set(what, value);
    }

    int registerOf(int register, int what) {
        return used().registerOf(register, what);
    }

    int alarmOf(int alarm, int what) {
        return used().alarmOf(alarm, what);
    }

    int date(int what) {
        return used().date(what);
    }

    int log(int ago, int what) {
        return used().log(ago, what);
    }

    int readable() {
        return used().readable();
    }

    int safeIn() {
        return used().safeIn();
    }

    int ifBurst(int mode, int what) {
        return used().ifBurst(mode, what);
    }

    int comesIn(int alarm) {
        return used().comesIn(alarm);
    }

    int share() {
        return used().share();
    }

    int count(int what) {
        return used().count(what);
    }

    int undo() {
        return used().undo();
    }

    int type(int character) {
        return used().type(character);
    }

    int clearText() {
        return used().clearText();
    }

    int fault(int what) {
        return used().fault(what);
    }

    int play() {
        return used().play();
    }
}
