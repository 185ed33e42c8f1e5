/** The sentences of 'Registers' that name boundary cases, each with a test of its own. */
public final class EdgesRegistersTest {
    private static final String IN = "Registers";
    private static final int[] FIRST = {0, 0, 0, 1, 1, 1, 0};
    private static final int[] LAST = {59, 59, 23, 7, 31, 12, 99};

    public static void main(String[] args) {
        sevenRegisters();
        valuesAndNumbers();
        firstAndLastNumbers();
        digitsAbove9();
        rightOnes();
        lengthsOfMonths();
        february();
        monthNotRight();
        atFirst();
        lastBecomesFirst();
        lastNumberInWrongDigits();
        lowerDigit9OrMore();
        upperDigit15();
        otherwiseOneMore();
        everyStep();
        everyTick();
        cellsOfARegister();
        cellsAtOnce();
        cellsBehindSteps();
        cellsBehindWritings();
        rollsOverAheadOfCells();
        Checks.end("EdgesRegistersTest");
    }

    private static void sevenRegisters() {
        Checks.sentence(IN, "The chip has 7 registers: 0 seconds, 1 minutes, 2 hours, 3 weekday, 4 day, 5 month, 6 year.");
        for (int register = 0; register < 7; register++) {
            Chip chip = new Chip();
            chip.write(register, 0x42);
            for (int other = 0; other < 7; other++) {
                int first = new int[] {0, 0, 0, 6, 1, 1, 0}[other];
                Checks.due(register + " is written, " + other + " is", other == register ? 0x42 : first, chip.registerOf(other, 0));
            }
        }
        int[] none = {-1, 7, 8, 255, -7, Integer.MIN_VALUE, Integer.MAX_VALUE};
        for (int register : none) {
            Chip chip = new Chip();
            Checks.due("write(" + register + ", 0)", Checks.INVALID, chip.write(register, 0));
            Checks.due("read(" + register + ")", Checks.INVALID, chip.read(register));
            Checks.due("fail(" + register + ", 0, 0)", Checks.INVALID, chip.fail(register, 0, 0));
            Checks.due("heal(" + register + ", 0)", Checks.INVALID, chip.heal(register, 0));
            Checks.due("registerOf(" + register + ", 0)", Checks.INVALID, chip.registerOf(register, 0));
        }
    }

    private static void valuesAndNumbers() {
        Checks.sentence(IN, "Each has a value of 0 to 255: 16 times its upper digit, and its lower digit, together; its number"
            + " is 10 times the upper digit and the lower one, together.");
        for (int register = 0; register < 7; register++) {
            for (int upper = 0; upper < 16; upper++) {
                for (int lower = 0; lower < 16; lower++) {
                    Chip chip = new Chip();
                    int value = 16 * upper + lower;
                    Checks.due("write(" + register + ", " + value + ")", value, chip.write(register, value));
                    Checks.due("value of " + register, value, chip.registerOf(register, 0));
                    Checks.due("number of " + value, 10 * upper + lower, chip.registerOf(register, 1));
                }
            }
            Checks.due("value -1", Checks.INVALID, new Chip().write(register, -1));
            Checks.due("value 256", Checks.INVALID, new Chip().write(register, 256));
        }
    }

    private static int why(int register, int value) {
        Chip chip = new Chip();
        chip.write(register, value);
        int why = chip.registerOf(register, 2);
        int wrongOnes = chip.count(2);
        Checks.due("wrong ones with " + value + " in " + register, why == 0 ? 0 : 1 << register, wrongOnes);
        return why;
    }

    private static void firstAndLastNumbers() {
        Checks.sentence(IN, "The first and last numbers are: of the seconds and the minutes 0 and 59, of the hours 0 and 23, of the"
            + " weekday 1 (Monday) and 7, of the day 1 and the length of the month, of the month 1 and 12, of the year 0 and 99.");
        for (int register = 0; register < 7; register++) {
            Checks.due("first of " + register, 0, why(register, Checks.code(FIRST[register])));
            Checks.due("last of " + register, 0, why(register, Checks.code(LAST[register])));
            Checks.due("last number of " + register, LAST[register], new Chip().registerOf(register, 3));
            if (FIRST[register] > 0) {
                Checks.due("below the first of " + register, 2, why(register, Checks.code(FIRST[register] - 1)));
            }
            if (LAST[register] < 99) {
                Checks.due("above the last of " + register, 3, why(register, Checks.code(LAST[register] + 1)));
                Checks.due("99 in " + register, 3, why(register, 0x99));
            }
        }
    }

    private static void digitsAbove9() {
        Checks.sentence(IN, "A register is right if both digits are at most 9");
        for (int register = 0; register < 7; register++) {
            Checks.due("lower digit 9 in " + register, register == 3 ? 3 : 0, why(register, 0x09));
            for (int above = 10; above <= 15; above++) {
                Checks.due("lower digit " + above + " in " + register, 1, why(register, above));
                Checks.due("upper digit " + above + " in " + register, 1, why(register, 16 * above));
                Checks.due("both digits " + above + " in " + register, 1, why(register, 17 * above));
            }
            Checks.due("upper digit 9 in " + register, register == 6 ? 0 : 3, why(register, 0x90));
            Checks.due("9 and 10 in " + register, 1, why(register, 0x9A));
            Checks.due("10 and 9 in " + register, 1, why(register, 0xA9));
        }
    }

    private static void rightOnes() {
        Checks.sentence(IN, "A register is right if both digits are at most 9, and its number is from the first to the last one.");
        for (int register = 0; register < 7; register++) {
            for (int value = 0; value < 256; value++) {
                int number = 10 * (value / 16) + value % 16;
                boolean isCode = value / 16 <= 9 && value % 16 <= 9;
                int want = !isCode ? 1 : number < FIRST[register] ? 2 : number > LAST[register] ? 3 : 0;
                Checks.due("why " + value + " is not right in " + register, want, why(register, value));
            }
        }
    }

    private static void length(int month, int year, int want) {
        Chip chip = new Chip();
        chip.write(6, year);
        chip.write(5, month);
        String of = " of month " + month + ", year " + year;
        Checks.due("length" + of, want, chip.date(3));
        Checks.due("last day" + of, want, chip.registerOf(4, 3));
        chip.write(4, Checks.code(want));
        Checks.due("the last day" + of + " is right", 0, chip.registerOf(4, 2));
        Checks.due("behind the last day" + of, 1, chip.registerOf(4, 6));
        chip.write(4, Checks.code(want + 1));
        Checks.due("the day behind it" + of + " is not", 3, chip.registerOf(4, 2));
    }

    private static void lengthsOfMonths() {
        Checks.sentence(IN, "The length of the month is 31; but 30 for the months 4, 6, 9 and 11");
        int[] lengths = {31, 28, 31, 30, 31, 30, 31, 31, 30, 31, 30, 31};
        for (int month = 1; month <= 12; month++) {
            length(Checks.code(month), 0x01, lengths[month - 1]);
            length(Checks.code(month), 0x9A, lengths[month - 1]);
            if (month != 2) {
                length(Checks.code(month), 0x04, lengths[month - 1]);
            }
        }
    }

    private static void february() {
        Checks.sentence(IN, "for the month 2 it is 29 if the year is right and its number can be divided by 4, otherwise 28");
        for (int year = 0; year < 256; year++) {
            int number = 10 * (year / 16) + year % 16;
            boolean isRight = year / 16 <= 9 && year % 16 <= 9;
            length(0x02, year, isRight && number % 4 == 0 ? 29 : 28);
        }
        length(0x02, 0x00, 29);
        length(0x02, 0x96, 29);
        length(0x02, 0x99, 28);
        length(0x02, 0x10, 28);
        length(0x02, 0x12, 29);
        // Their numbers are 12, 100, 100 and 160, but they are not right.
        length(0x02, 0x0C, 28);
        length(0x02, 0x9A, 28);
        length(0x02, 0xA0, 28);
        length(0x02, 0xFA, 28);
    }

    private static void monthNotRight() {
        Checks.sentence(IN, "(31 if the month is not right)");
        for (int month = 0; month < 256; month++) {
            boolean isRight = month >= 0x01 && month <= 0x09 || month >= 0x10 && month <= 0x12;
            if (!isRight) {
                length(month, 0x01, 31);
            }
        }
        // Their numbers are 10, 11, 12 and 14.
        length(0x0A, 0x01, 31);
        length(0x0B, 0x01, 31);
        length(0x0C, 0x01, 31);
        length(0x0E, 0x00, 31);
    }

    private static void atFirst() {
        Checks.sentence(IN, "At first the chip shows the year 0, the month 1, the day 1, the weekday 6, and 0 hours, minutes and"
            + " seconds.");
        Checks.same("shown at first", Checks.told(0, 0, 0, 6, 1, 1, 0), Checks.shownBy(new Chip()));
    }

    /** A tick lets this register step on; those ahead of it roll over. */
    private static Chip aboutToStep(int register, int value) {
        Chip chip = Checks.showing(0x59, 0x59, 0x23, 6, 0x31, 0x12, 0x50);
        chip.write(register, value);
        if (register == 5) {
            chip.write(4, Checks.code(chip.date(3)));
        }
        chip.pass(15);
        return chip;
    }

    private static void lastBecomesFirst() {
        Checks.sentence(IN, "if it is right and its number is the last one, it becomes the first one, and it rolls over");
        for (int register = 0; register < 7; register++) {
            Chip chip = aboutToStep(register, Checks.code(LAST[register]));
            Checks.due("next value of " + register, FIRST[register], chip.registerOf(register, 6));
            Checks.due("rolled over " + register, 0, chip.registerOf(register, 5));
            chip.pass(1);
            Checks.due("value behind it of " + register, FIRST[register], chip.registerOf(register, 0));
            Checks.due("rolled over " + register, 1, chip.registerOf(register, 5));
            int before = LAST[register] - 1;
            chip = aboutToStep(register, Checks.code(before));
            chip.pass(1);
            Checks.due("one ahead of the last of " + register, Checks.code(LAST[register]), chip.registerOf(register, 0));
            Checks.due("not rolled over " + register, 0, chip.registerOf(register, 5));
        }
        int[][] months = {{0x04, 30}, {0x06, 30}, {0x09, 30}, {0x11, 30}, {0x02, 28}, {0x01, 31}, {0x00, 31}, {0x1F, 31}};
        for (int[] month : months) {
            Chip chip = Checks.showing(0x59, 0x59, 0x23, 6, Checks.code(month[1]), month[0], 0x51);
            chip.pass(16);
            Checks.due("behind the last day of " + month[0], 1, chip.registerOf(4, 0));
            Checks.due("rolled over", 1, chip.registerOf(4, 5));
        }
    }

    private static void lastNumberInWrongDigits() {
        Checks.sentence(IN, "To step on is, for a register: if it is right and its number is the last one");
        // register, value whose number is the last one while its digits are not right, the value behind it
        int[][] wrong = {{2, 0x1D, 0x20}, {4, 0x2B, 0x30}, {5, 0x0C, 0x10}};
        for (int[] one : wrong) {
            Chip chip = aboutToStep(one[0], one[1]);
            Checks.due("number of " + one[1], LAST[one[0]], chip.registerOf(one[0], 1));
            Checks.due("next value", one[2], chip.registerOf(one[0], 6));
            int other = chip.registerOf(one[0] == 2 ? 4 : one[0] + 1, 0);
            chip.pass(1);
            Checks.due("value", one[2], chip.registerOf(one[0], 0));
            Checks.due("not rolled over", 0, chip.registerOf(one[0], 5));
            Checks.due("the next register stays", other, chip.registerOf(one[0] == 2 ? 4 : one[0] + 1, 0));
        }
        Chip april = Checks.showing(0x59, 0x59, 0x23, 6, 0x2A, 0x04, 0x50);
        april.pass(16);
        Checks.due("day 30 in two digits that are not right", 0x30, april.registerOf(4, 0));
        Checks.due("month stays", 0x04, april.registerOf(5, 0));
    }

    private static void step(int register, int value, int want) {
        Chip chip = aboutToStep(register, value);
        Checks.due("next value of " + value + " in " + register, want, chip.registerOf(register, 6));
        Checks.due("nothing steps on by that", value, chip.registerOf(register, 0));
        chip.pass(1);
        Checks.due("stepped on from " + value + " in " + register, want, chip.registerOf(register, 0));
        Checks.due("not rolled over from " + value, 0, chip.registerOf(register, 5));
    }

    private static void lowerDigit9OrMore() {
        Checks.sentence(IN, "otherwise, if its lower digit is 9 or more, that becomes 0, and the upper digit 1 more");
        for (int lower = 9; lower <= 15; lower++) {
            step(0, lower, 0x10);
            step(1, 0x40 + lower, 0x50);
            step(2, 0x10 + lower, 0x20);
            step(3, lower, 0x10);
            step(4, 0x20 + lower, 0x30);
            step(5, lower, 0x10);
            step(6, 0x80 + lower, 0x90);
            step(0, 0x60 + lower, 0x70);
            step(6, 0xE0 + lower, 0xF0);
        }
        step(6, 0x9A, 0xA0);
        step(0, 0x5A, 0x60);
        step(0, 0x5F, 0x60);
    }

    private static void upperDigit15() {
        Checks.sentence(IN, "and the upper digit 1 more (0 if it was 15)");
        for (int register = 0; register < 7; register++) {
            step(register, 0xF9, 0x00);
            step(register, 0xFA, 0x00);
            step(register, 0xFF, 0x00);
            step(register, 0xE9, 0xF0);
            step(register, 0xF8, 0xF9);
        }
    }

    private static void otherwiseOneMore() {
        Checks.sentence(IN, "otherwise the lower digit becomes 1 more.");
        for (int register = 0; register < 7; register++) {
            step(register, 0x00, 0x01);
            step(register, 0xF0, 0xF1);
            step(register, 0xA8, 0xA9);
            int aboveLast = Checks.code(LAST[register]) + 1;
            step(register, aboveLast, (aboveLast & 15) > 9 ? (aboveLast & 0xF0) + 16 : aboveLast + 1);
        }
        step(0, 0x08, 0x09);
        step(0, 0x58, 0x59);
        step(2, 0x22, 0x23);
        step(3, 0x06, 0x07);
        step(4, 0x30, 0x31);
        step(5, 0x11, 0x12);
        step(6, 0x98, 0x99);
    }

    private static int stepped(int register, int value) {
        if (value == Checks.code(LAST[register])) {
            return FIRST[register];
        }
        int upper = value / 16;
        int lower = value % 16;
        return lower < 9 ? value + 1 : upper < 15 ? 16 * (upper + 1) : 0;
    }

    private static void everyStep() {
        Checks.sentence(IN, "To step on is, for a register");
        for (int register = 0; register < 7; register++) {
            for (int value = 0; value < 256; value++) {
                Chip chip = aboutToStep(register, value);
                Checks.due("next value of " + value + " in " + register, stepped(register, value), chip.registerOf(register, 6));
                chip.pass(1);
                Checks.due("value behind " + value + " in " + register, stepped(register, value), chip.registerOf(register, 0));
                boolean isLast = value == Checks.code(LAST[register]);
                Checks.due("rolled over behind " + value + " in " + register, isLast ? 1 : 0, chip.registerOf(register, 5));
            }
        }
    }

    /** Seconds from 60 on go through all wrong values, and come to 0 without a minute. */
    private static void everyTick() {
        Checks.sentence(IN, "otherwise, if its lower digit is 9 or more, that becomes 0");
        Chip chip = new Chip();
        chip.write(0, 0x60);
        int value = 0x60;
        for (int tick = 1; tick <= 101; tick++) {
            value = stepped(0, value);
            chip.pass(16);
            Checks.due("seconds behind tick " + tick, value, chip.registerOf(0, 0));
        }
        Checks.due("behind F9 it is 0, then 1", 0x01, value);
        Checks.due("rolled over", 0, chip.registerOf(0, 5));
        Checks.due("minutes", 0, chip.registerOf(1, 0));
    }

    private static void cellsOfARegister() {
        Checks.sentence(IN, "A cell is a bit of a register, 0 to 7.");
        for (int register = 0; register < 7; register++) {
            for (int bit = 0; bit < 8; bit++) {
                Chip chip = new Chip();
                chip.write(register, 0);
                Checks.due("cell " + bit + " of " + register, 1 << bit, chip.fail(register, bit, 1));
                Checks.due("failed cells", 1 << bit, chip.registerOf(register, 4));
                chip.heal(register, bit);
                chip.write(register, 255);
                Checks.due("cell " + bit + " of " + register, 255 - (1 << bit), chip.fail(register, bit, 0));
                Checks.due("healed", 0, chip.heal(register, bit));
            }
            int[] none = {-1, 8, 32, -32, Integer.MIN_VALUE, Integer.MAX_VALUE};
            for (int bit : none) {
                Checks.due("cell " + bit, Checks.INVALID, new Chip().fail(register, bit, 1));
                Checks.due("cell " + bit, Checks.INVALID, new Chip().heal(register, bit));
            }
        }
    }

    private static void cellsAtOnce() {
        Checks.sentence(IN, "A cell that failed is 0, or 1, whatever is written or steps on: the register has it so at once");
        Chip chip = Checks.showing(0x55, 0x55, 0x23, 7, 0x31, 0x12, 0x99);
        Checks.due("a cell of 1 becomes 0", 0x54, chip.fail(0, 0, 0));
        Checks.due("a cell of 1 stays 1", 0x55, chip.fail(1, 0, 1));
        Checks.due("a cell of 0 becomes 1", 0x27, chip.fail(2, 2, 1));
        Checks.due("a cell of 0 stays 0", 7, chip.fail(3, 3, 0));
        Checks.same("shown", Checks.told(0x54, 0x55, 0x27, 7, 0x31, 0x12, 0x99), Checks.shownBy(chip));
        Checks.due("wrong ones", 1 << 2, chip.count(2));
        Checks.due("no phases", 0, chip.count(10));
    }

    private static void cellsBehindSteps() {
        Checks.sentence(IN, "and behind each step and each writing");
        for (int bit = 0; bit < 8; bit++) {
            for (int is = 0; is <= 1; is++) {
                Chip chip = new Chip();
                chip.fail(0, bit, is);
                int cell = 1 << bit;
                int value = is * cell;
                for (int tick = 1; tick <= 70; tick++) {
                    int next = stepped(0, value);
                    value = is == 1 ? next | cell : next & ~cell;
                    Checks.due("value that it would have", value, chip.registerOf(0, 6));
                    chip.pass(16);
                    Checks.due("cell " + bit + " is " + is + ", tick " + tick, value, chip.registerOf(0, 0));
                }
            }
        }
        Chip all = Checks.showing(0x59, 0x59, 0x23, 7, 0x31, 0x12, 0x99);
        for (int register = 0; register < 7; register++) {
            all.fail(register, 7, 1);
            all.fail(register, 6, 0);
        }
        all.pass(16);
        Checks.same("only the seconds step on", Checks.told(0xA0, 0x99, 0xA3, 0x87, 0xB1, 0x92, 0x99), Checks.shownBy(all));
        Chip rolling = Checks.showing(0x59, 0x59, 0x23, 0x07, 0x31, 0x12, 0x99);
        int[] bits = {6, 3, 5, 2, 4, 1, 7};
        for (int register = 0; register < 7; register++) {
            rolling.fail(register, bits[register], 1);
        }
        rolling.pass(16);
        Checks.same("all roll over", Checks.told(0x40, 0x08, 0x20, 0x05, 0x11, 0x03, 0x80), Checks.shownBy(rolling));
    }

    private static void cellsBehindWritings() {
        Checks.sentence(IN, "A cell that failed is 0, or 1, whatever is written");
        for (int register = 0; register < 7; register++) {
            for (int bit = 0; bit < 8; bit++) {
                int cell = 1 << bit;
                Chip chip = new Chip();
                chip.fail(register, bit, 1);
                Checks.due("written 0", cell, chip.write(register, 0));
                Checks.due("it is", cell, chip.registerOf(register, 0));
                Checks.due("written 255", 255, chip.write(register, 255));
                chip = new Chip();
                chip.fail(register, bit, 0);
                Checks.due("written 255", 255 - cell, chip.write(register, 255));
                Checks.due("it is", 255 - cell, chip.registerOf(register, 0));
                Checks.due("written 0", 0, chip.write(register, 0));
            }
        }
        Chip chip = new Chip();
        chip.fail(2, 7, 1);
        Checks.type(chip, "w2,35;");
        chip.play();
        Checks.due("written by an order", 0xA3, chip.registerOf(2, 0));
    }

    private static void rollsOverAheadOfCells() {
        Checks.sentence(IN, "(whether it rolls over is told ahead of that)");
        for (int register = 0; register < 7; register++) {
            Chip chip = aboutToStep(register, Checks.code(LAST[register]));
            // All cells stay as they are, so the register stays the last one, and rolls over all the same.
            for (int bit = 0; bit < 8; bit++) {
                chip.fail(register, bit, Checks.code(LAST[register]) >> bit & 1);
            }
            Checks.due("it would be", Checks.code(LAST[register]), chip.registerOf(register, 6));
            chip.pass(1);
            Checks.due("it is", Checks.code(LAST[register]), chip.registerOf(register, 0));
            Checks.due("rolled over " + register, 1, chip.registerOf(register, 5));
        }
        Chip always = Checks.showing(0x59);
        for (int bit = 0; bit < 8; bit++) {
            always.fail(0, bit, 0x59 >> bit & 1);
        }
        always.pass(16 * 7);
        Checks.due("each tick is a minute", 0x07, always.registerOf(1, 0));
        Checks.due("rolled over", 7, always.registerOf(0, 5));
        Chip never = Checks.showing(0x58);
        never.fail(0, 0, 0);
        never.pass(16 * 100);
        Checks.due("59 is never reached", 0x58, never.registerOf(0, 0));
        Checks.due("rolled over", 0, never.registerOf(0, 5));
        Chip toLast = Checks.showing(0x51);
        toLast.fail(0, 3, 1);
        Checks.due("a cell makes it the last one", 0x59, toLast.registerOf(0, 0));
        Checks.due("that is no step", 0, toLast.registerOf(0, 5));
        toLast.pass(16);
        Checks.due("rolled over, and then by its cell 8", 0x08, toLast.registerOf(0, 0));
        Checks.due("rolled over", 1, toLast.registerOf(0, 5));
    }
}
