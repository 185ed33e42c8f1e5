/** Promises 16 to 22: readable, safeIn, ifBurst, comesIn, share, count, undo. */
public final class AheadTest {
    public static void main(String[] args) {
        promise16And17();
        promise17Examples();
        promise18IfBurst();
        promise19ComesIn();
        promise20Share();
        promise21Count();
        promise22Undo();
        promise22EachChange();
        promise22Log();
        Checks.end("AheadTest");
    }

    /** By trying it, in all settings and phases. */
    private static void promise16And17() {
        for (int second = 4; second <= 60; second++) {
            for (int read = 0; read <= 8; read++) {
                for (int phase = 0; phase < second; phase++) {
                    Chip chip = new Chip();
                    chip.set(2, second);
                    chip.set(0, read);
                    if (phase > 0) {
                        chip.pass(phase);
                    }
                    String at = second + " " + read + " " + phase;
                    Checks.due("readable at " + at, triedReadable(second, read, phase), chip.readable());
                    Checks.due("safeIn at " + at, triedSafeIn(second, read, phase), chip.safeIn());
                }
            }
        }
    }

    private static int triedReadable(int second, int read, int phase) {
        int registers = 0;
        while (registers < 7 && phase + registers * read < second) {
            registers++;
        }
        return registers;
    }

    private static int triedSafeIn(int second, int read, int phase) {
        for (int later = 0; later <= second; later++) {
            if ((phase + later) % second + 6 * read < second) {
                return later;
            }
        }
        return Checks.NONE;
    }

    private static void promise17Examples() {
        Chip chip = new Chip();
        chip.pass(3);
        Checks.due("the last read at phase 15", 0, chip.safeIn());
        Checks.due("all can be read", 7, chip.readable());
        chip.pass(1);
        Checks.due("the last read at phase 16", 12, chip.safeIn());
        Checks.due("one less", 6, chip.readable());
        chip.set(2, 12);
        Checks.due("12 phases in 12", Checks.NONE, chip.safeIn());
        chip.set(2, 13);
        Checks.due("12 phases in 13", 9, chip.safeIn());
        Checks.due("only these changes", 4, chip.count(12));
    }

    private static Chip beforeNewMonth() {
        Chip chip = new Chip();
        chip.arm(0, 31);
        Checks.setTime(chip, 0, 1, 0x31, 0x23, 0x59, 0x59);
        chip.set(0, 7);
        chip.pass(12);
        return chip;
    }

    private static void promise18IfBurst() {
        for (int mode = 0; mode <= 2; mode++) {
            Chip chip = beforeNewMonth();
            int[] told = new int[10];
            for (int what = 0; what <= 9; what++) {
                told[what] = chip.ifBurst(mode, what);
            }
            Checks.same("the state behind ifBurst", Checks.stateOf(beforeNewMonth()), Checks.stateOf(chip));
            Checks.due("states", 4, chip.count(12));
            Checks.due("burst(" + mode + ")", told[8], chip.burst(mode));
            for (int what = 0; what <= 9; what++) {
                Checks.due("told " + what + " of mode " + mode, told[what], chip.log(0, what));
            }
            Checks.due("mode", mode, told[7]);
        }
        Chip chip = beforeNewMonth();
        Checks.due("the burst in turn is torn", 1, chip.ifBurst(0, 8));
        Checks.due("day", 1, chip.ifBurst(0, 4));
        Checks.due("minute", 0, chip.ifBurst(0, 1));
        Checks.due("at once it is not", 0, chip.ifBurst(1, 8));
        Checks.due("seconds", 0x59, chip.ifBurst(1, 0));
        Checks.due("five are made", 5, chip.ifBurst(2, 9));
        Checks.due("ifBurst(-1, 0)", Checks.INVALID, chip.ifBurst(-1, 0));
        Checks.due("ifBurst(3, 0)", Checks.INVALID, chip.ifBurst(3, 0));
        Checks.due("ifBurst(0, -1)", Checks.INVALID, chip.ifBurst(0, -1));
        Checks.due("ifBurst(0, 10)", Checks.INVALID, chip.ifBurst(0, 10));
    }

    private static void promise19ComesIn() {
        Chip chip = new Chip();
        Checks.due("comesIn(-1)", Checks.INVALID, chip.comesIn(-1));
        Checks.due("comesIn(3)", Checks.INVALID, chip.comesIn(3));
        Checks.due("not armed", Checks.IMPOSSIBLE, chip.comesIn(2));
        chip.arm(2, 30);
        Checks.due("matches now; comes in a minute", 60, chip.comesIn(2));
        chip.pass(15);
        Checks.due("phases are no matter", 60, chip.comesIn(2));
        chip.arm(2, 31);
        Checks.due("all masked", 1, chip.comesIn(2));
        chip.alarm(2, 1, 0x06);
        chip.alarm(2, 0, 0x40);
        chip.alarm(2, 2, 0x01);
        chip.arm(2, 24);
        Checks.due("1:06:40 is 4000 ticks ahead", 4000, chip.comesIn(2));
        chip.alarm(2, 0, 0x41);
        String before = Checks.stateOf(chip);
        Checks.due("1:06:41 is 4001 ticks ahead", Checks.NONE, chip.comesIn(2));
        Checks.same("comesIn changes nothing", before, Checks.stateOf(chip));
        chip.alarm(2, 0, 0x0A);
        chip.arm(2, 30);
        Checks.due("seconds of 10 in one digit", Checks.NONE, chip.comesIn(2));
        chip.fail(0, 3, 1);
        chip.fail(0, 1, 1);
        Checks.due("they come by cells, behind F9", 16, chip.comesIn(2));
        chip.arm(2, -1);
        Checks.due("not armed any more", Checks.IMPOSSIBLE, chip.comesIn(2));
    }

    private static void promise20Share() {
        Chip chip = new Chip();
        Checks.due("without bursts", Checks.NONE, chip.share());
        int torn = 0;
        chip.set(0, 1);
        for (int all = 1; all <= 60; all++) {
            boolean tears = all % 7 == 3 || all > 50;
            int toPhase15 = 31 - chip.count(0);
            chip.pass(toPhase15);
            chip.write(1, 0x10);
            chip.write(0, tears ? 0x59 : 0x10);
            torn += chip.burst(0);
            Checks.due("torn ones", torn, chip.count(7));
            Checks.due("share of " + torn + " in " + all, Float.floatToIntBits((float) torn / (float) all), chip.share());
        }
        Checks.due("some are torn", 1, torn > 15 && torn < 40 ? 1 : 0);
        Chip all = new Chip();
        all.write(0, 0x59);
        all.pass(15);
        Checks.due("torn", 1, all.burst(0));
        Checks.due("all of them", Float.floatToIntBits(1.0f), all.share());
        Chip none = new Chip();
        none.burst(1);
        Checks.due("none of them", 0, none.share());
    }

    private static void promise21Count() {
        Chip chip = new Chip();
        chip.set(0, 3);
        chip.set(1, 1);
        chip.set(2, 21);
        chip.arm(0, 31);
        chip.arm(2, 31);
        chip.fail(6, 7, 1);
        chip.fail(6, 5, 1);
        chip.write(0, 0xFF);
        chip.read(2);
        chip.read(3);
        chip.burst(0);
        chip.burst(2);
        Checks.type(chip, "r0;b1;w0,99;");
        chip.play();
        chip.pass(100);
        // phases: 2 reads, 1 burst, 2 or more bursts, a read, a burst at once
        int phases = 6 + 21 + 21 * chip.log(1, 9) + 3 + 21 + 100;
        int ticks = phases / 21;
        int[] want = {phases % 21, ticks, 1 << 6 | 1, 5, 2 * ticks, 2, 3, chip.count(7), 3, 2, phases, 3, 4, 12};
        for (int what = 0; what < want.length; what++) {
            Checks.due("count(" + what + ")", want[what], chip.count(what));
        }
        Checks.due("count(20)", 3, chip.count(20));
        Checks.due("count(21)", 1, chip.count(21));
        Checks.due("count(22)", 21, chip.count(22));
        int[] wrong = {-1, 14, 19, 23, 100, Integer.MAX_VALUE, Integer.MIN_VALUE};
        for (int what : wrong) {
            Checks.due("count(" + what + ")", Checks.INVALID, chip.count(what));
        }
    }

    private static Chip afterWritings(int writings) {
        Chip chip = new Chip();
        for (int i = 0; i < writings; i++) {
            chip.write(i, 0x40 + i);
            Checks.due("states", Math.min(i + 1, 4), chip.count(12));
        }
        return chip;
    }

    private static void promise22Undo() {
        Checks.due("empty", Checks.IMPOSSIBLE, new Chip().undo());
        for (int undone = 1; undone <= 4; undone++) {
            Chip chip = afterWritings(7);
            for (int left = 3; left >= 4 - undone; left--) {
                Checks.due("undo()", left, chip.undo());
                Checks.due("states", left, chip.count(12));
            }
            Checks.same("state behind " + undone, Checks.stateOf(afterWritings(7 - undone)), Checks.stateOf(chip));
        }
        Chip chip = afterWritings(3);
        for (int left = 2; left >= 0; left--) {
            Checks.due("undo()", left, chip.undo());
        }
        Checks.due("empty again", Checks.IMPOSSIBLE, chip.undo());
        chip.write(0, 1);
        Checks.due("undo()", 0, chip.undo());
        Checks.same("undo is no change", Checks.stateOf(new Chip()), Checks.stateOf(chip));
        Checks.due("states", 0, chip.count(12));
        chip.write(0, -1);
        Checks.due("errors are no changes", 0, chip.count(12));
    }

    private static void promise22EachChange() {
        for (int change = 0; change < 11; change++) {
            Chip chip = new Chip();
            chip.arm(0, 31);
            chip.fail(3, 3, 1);
            chip.burst(2);
            chip.pass(99);
            Checks.type(chip, "w0,3;b0;r1;p200;a0,0,7;m1,2;");
            String before = Checks.stateOf(chip);
            doChange(chip, change);
            Checks.due("it is one change", 4, chip.count(12));
            Checks.due("it did something " + change, 1, before.equals(Checks.stateOf(chip)) ? 0 : 1);
            chip.type(';');
            Checks.due("undo of " + change, 3, chip.undo());
            Checks.same("state ahead of " + change, before, Checks.stateOf(chip));
            Checks.due("the text stays", 29, chip.count(13));
        }
    }

    private static Chip afterBursts(int bursts) {
        Chip chip = new Chip();
        for (int i = 1; i <= bursts; i++) {
            chip.write(6, i);
            chip.burst(1);
        }
        return chip;
    }

    /** The latest of the log take the places of the oldest: these are there again. */
    private static void promise22Log() {
        for (int bursts = 0; bursts <= 14; bursts++) {
            Chip chip = afterBursts(bursts);
            chip.burst(0);
            chip.burst(2);
            chip.undo();
            chip.undo();
            Checks.same("log of " + bursts, Checks.stateOf(afterBursts(bursts)), Checks.stateOf(chip));
            Checks.due("latest year", bursts == 0 ? Checks.NONE : bursts, chip.log(0, 6));
            Checks.due("oldest year", bursts < 6 ? Checks.NONE : bursts - 5, chip.log(5, 6));
        }
    }

    private static void doChange(Chip chip, int change) {
        switch (change) {
            case 0: chip.write(2, 9); break;
            case 1: chip.read(2); break;
            case 2: chip.burst(1); break;
            case 3: chip.pass(1); break;
            case 4: chip.alarm(1, 1, 1); break;
            case 5: chip.arm(1, 1); break;
            case 6: chip.clear(); break;
            case 7: chip.fail(1, 1, 1); break;
            case 8: chip.heal(3, 3); break;
            case 9: chip.set(0, 1); break;
            default: chip.play(); break;
        }
    }
}
