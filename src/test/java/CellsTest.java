/** Promises 9 to 11: fail, heal, set. */
public final class CellsTest {
    public static void main(String[] args) {
        promise9Fail();
        promise9CellsInSteps();
        promise10Heal();
        promise11Set();
        promise11PhaseOfNow();
        Checks.end("CellsTest");
    }

    private static void promise9Fail() {
        Chip chip = new Chip();
        for (int bit = 0; bit < 8; bit++) {
            Checks.due("fail(6, bit, 1)", (2 << bit) - 1, chip.fail(6, bit, 1));
        }
        Checks.due("cells of it", 255, chip.registerOf(6, 4));
        chip.write(5, 255);
        for (int bit = 0; bit < 8; bit++) {
            Checks.due("fail(5, bit, 0)", 255 - (2 << bit) + 1, chip.fail(5, bit, 0));
        }
        Checks.due("cells in all", 16, chip.count(5));
        Checks.due("writings", 1, chip.count(9));
        Checks.due("failed before", Checks.IMPOSSIBLE, chip.fail(6, 0, 0));
        Checks.due("failed before, the same way", Checks.IMPOSSIBLE, chip.fail(5, 7, 0));
        Checks.due("fail(-1, 0, 0)", Checks.INVALID, chip.fail(-1, 0, 0));
        Checks.due("fail(7, 0, 0)", Checks.INVALID, chip.fail(7, 0, 0));
        Checks.due("fail(0, -1, 0)", Checks.INVALID, chip.fail(0, -1, 0));
        Checks.due("fail(0, 8, 0)", Checks.INVALID, chip.fail(0, 8, 0));
        Checks.due("fail(0, 0, -1)", Checks.INVALID, chip.fail(0, 0, -1));
        Checks.due("INVALID_ARGUMENT comes first", Checks.INVALID, chip.fail(6, 0, 2));
        Checks.due("states", 4, chip.count(12));
        Checks.due("cells in all", 16, chip.count(5));
    }

    private static void promise9CellsInSteps() {
        Chip chip = new Chip();
        chip.fail(0, 0, 1);
        chip.write(0, 0x58);
        Checks.due("59 by its cell", 0x59, chip.registerOf(0, 0));
        chip.pass(16);
        Checks.due("rolls over to 1", 1, chip.registerOf(0, 0));
        Checks.due("the minutes step on", 1, chip.registerOf(1, 0));
        chip.fail(1, 0, 0);
        Checks.due("the minutes have it at once", 0, chip.registerOf(1, 0));
        chip.write(0, 0x59);
        chip.write(1, 0x58);
        chip.pass(16);
        Checks.due("58 steps to 59, which is 58", 0x58, chip.registerOf(1, 0));
        Checks.due("it never rolls over", 0, chip.registerOf(1, 5));
        Chip same = new Chip();
        same.fail(0, 4, 1);
        same.fail(0, 6, 1);
        same.write(0, 0x59);
        same.pass(16);
        Checks.due("59 rolls over to 50", 0x50, same.registerOf(0, 0));
        Checks.due("rolled over", 1, same.registerOf(0, 5));
        Checks.due("minutes", 1, same.registerOf(1, 0));
    }

    private static void promise10Heal() {
        Chip chip = new Chip();
        chip.fail(0, 3, 1);
        chip.fail(0, 1, 0);
        chip.fail(4, 7, 1);
        Checks.due("heal(0, 3)", 2, chip.heal(0, 3));
        Checks.due("keeps its value", 8, chip.registerOf(0, 0));
        Checks.due("cells of it", 2, chip.registerOf(0, 4));
        Checks.due("write", 0xF5, chip.write(0, 0xF7));
        Checks.due("heal(0, 1)", 1, chip.heal(0, 1));
        Checks.due("write", 0xF7, chip.write(0, 0xF7));
        Checks.due("fails again, otherwise", 0xF5, chip.fail(0, 1, 0));
        Checks.due("healed cells can fail", 2, chip.count(5));
        Checks.due("heal(4, 7)", 1, chip.heal(4, 7));
        Checks.due("heal(4, 7)", Checks.IMPOSSIBLE, chip.heal(4, 7));
        Checks.due("heal(4, 6)", Checks.IMPOSSIBLE, chip.heal(4, 6));
        Checks.due("heal(-1, 0)", Checks.INVALID, chip.heal(-1, 0));
        Checks.due("heal(7, 0)", Checks.INVALID, chip.heal(7, 0));
        Checks.due("heal(0, -1)", Checks.INVALID, chip.heal(0, -1));
        Checks.due("heal(0, 8)", Checks.INVALID, chip.heal(0, 8));
        Checks.due("cells", 1, chip.count(5));
        Chip ones = new Chip();
        ones.fail(2, 0, 1);
        ones.heal(2, 0);
        ones.fail(2, 0, 0);
        Checks.due("a cell of 1 healed, then of 0", 0, ones.write(2, 1));
    }

    private static void promise11Set() {
        Chip chip = new Chip();
        int[][] settings = {{0, 0, 8, 2}, {1, 0, 1, 0}, {2, 4, 60, 16}};
        for (int[] setting : settings) {
            int what = setting[0];
            Checks.due("first value", setting[3], chip.set(what, setting[1]));
            Checks.due("least value", setting[1], chip.set(what, setting[2]));
            Checks.due("most value", setting[2], chip.count(20 + what));
            Checks.due("below", Checks.INVALID, chip.set(what, setting[1] - 1));
            Checks.due("above", Checks.INVALID, chip.set(what, setting[2] + 1));
            Checks.due("it stays", setting[2], chip.count(20 + what));
        }
        Checks.due("set(-1, 0)", Checks.INVALID, chip.set(-1, 0));
        Checks.due("set(3, 4)", Checks.INVALID, chip.set(3, 4));
        Checks.due("states", 4, chip.count(12));
    }

    private static void promise11PhaseOfNow() {
        Chip chip = new Chip();
        chip.pass(10);
        chip.set(2, 11);
        Checks.due("below", 10, chip.count(0));
        chip.set(2, 10);
        Checks.due("not below any more", 9, chip.count(0));
        chip.set(2, 4);
        Checks.due("not below any more", 3, chip.count(0));
        Checks.due("no tick", 0, chip.count(1));
        Checks.due("no phases", 10, chip.count(10));
        chip.set(2, 60);
        Checks.due("phase stays", 3, chip.count(0));
        Checks.due("ticks", 0, chip.pass(56));
        Checks.due("ticks", 1, chip.pass(1));
    }
}
