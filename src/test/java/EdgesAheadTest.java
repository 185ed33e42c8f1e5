import java.util.function.ToIntFunction;

/** The sentences of the promises 16 to 26 that name boundary cases of what is returned, each with a test of its own. */
public final class EdgesAheadTest {
    public static void main(String[] args) {
        readableRegisters();
        oneToSevenReadable();
        safeIfNow();
        safeBehindTheTick();
        neverSafe();
        ifBurstIsMadeNow();
        ifBurstIsNotMade();
        comesFrom1On();
        comesWithin4000();
        comesIfNotArmed();
        comesNever();
        comesIfNothingElseIsDone();
        shareAsAFloat();
        shareBits();
        shareWithoutBursts();
        countOfTime();
        countOfSets();
        countOfBursts();
        countOfReadsAndWritings();
        countOfStatesAndText();
        undoRestoresTheLatest();
        undoReturnsStatesLeft();
        undoOfNothing();
        typeAppends();
        typeReturnsLength();
        typeBeyond60();
        clearTextReturnsLength();
        noFault();
        playDoesAllOrders();
        playReturnsOrders();
        playIsOneChange();
        playOfAFault();
        Checks.end("EdgesAheadTest");
    }

    private static Chip at(int readPhases, int second, int phase) {
        Chip chip = new Chip();
        chip.set(0, readPhases);
        chip.set(2, second);
        if (phase > 0) {
            chip.pass(phase);
        }
        return chip;
    }

    private static void readableRegisters() {
        Checks.sentence("Promise 16", "Tells how many registers could be read, one after the other, beginning now, ahead of the next tick.");
        for (int second = 4; second <= 60; second += second == 4 || second > 56 ? 1 : 4) {
            for (int readPhases = 0; readPhases <= 8; readPhases++) {
                for (int phase = 0; phase < second; phase++) {
                    Chip chip = at(readPhases, second, phase);
                    int readable = chip.readable();
                    int read = 0;
                    // By reading: each register that is seen while there was no tick.
                    while (read < 7 && chip.count(1) == 0) {
                        chip.read(read);
                        read++;
                    }
                    Checks.due(readPhases + " phases a read, at " + phase + " of " + second, read, readable);
                }
            }
        }
    }

    private static void oneToSevenReadable() {
        Checks.sentence("Promise 16", "Returns how many, 1 to 7.");
        Checks.due("at the last phase", 1, at(8, 4, 3).readable());
        Checks.due("at the last phase", 1, at(1, 60, 59).readable());
        Checks.due("a read takes all that is left", 1, at(8, 60, 52).readable());
        Checks.due("a read leaves one phase", 2, at(8, 60, 51).readable());
        Checks.due("six reads take all that is left", 6, at(2, 16, 4).readable());
        Checks.due("six reads leave one phase", 7, at(2, 16, 3).readable());
        Checks.due("seven could be read, and more", 7, at(1, 60, 0).readable());
        Checks.due("in no time, at the last phase", 7, at(0, 4, 3).readable());
        Chip chip = at(2, 16, 4);
        String before = Checks.stateOf(chip);
        chip.readable();
        Checks.same("nothing is read", before, Checks.stateOf(chip));
    }

    private static void safeIfNow() {
        Checks.sentence("Promise 17", "Returns how many, 0 if now");
        Checks.due("the last read one phase ahead of the tick", 0, at(2, 16, 3).safeIn());
        Checks.due("the last read one phase ahead of the tick", 0, at(8, 60, 11).safeIn());
        Checks.due("the last read one phase ahead of the tick", 0, at(8, 49, 0).safeIn());
        Checks.due("in no time, at the last phase", 0, at(0, 4, 3).safeIn());
        Checks.due("at the first phase", 0, at(1, 60, 0).safeIn());
        Checks.due("the phases behind the last read are no matter", 0, at(2, 13, 0).safeIn());
    }

    private static void safeBehindTheTick() {
        Checks.sentence("Promise 17", "Tells in how many phases a burst of the mode 0 could begin, in which there would be no tick up to its"
            + " last read.");
        Checks.due("the last read at the tick", 12, at(2, 16, 4).safeIn());
        Checks.due("the last read at the tick", 48, at(8, 60, 12).safeIn());
        Checks.due("one phase ahead of the tick", 1, at(2, 16, 15).safeIn());
        for (int second = 4; second <= 60; second++) {
            for (int readPhases = 0; readPhases <= 8; readPhases += 2) {
                for (int phase = 0; phase < second; phase += second < 20 ? 1 : 3) {
                    int want = Checks.NONE;
                    for (int later = second; later >= 0; later--) {
                        want = (phase + later) % second + 6 * readPhases < second ? later : want;
                    }
                    Checks.due(readPhases + " phases a read, at " + phase + " of " + second, want, at(readPhases, second, phase).safeIn());
                }
            }
        }
    }

    private static void neverSafe() {
        Checks.sentence("Promise 17", "NOT_FOUND if there is always one.");
        Checks.due("6 phases in seconds of 6", Checks.NONE, at(1, 6, 0).safeIn());
        Checks.due("6 phases in seconds of 7", 0, at(1, 7, 0).safeIn());
        Checks.due("6 phases in seconds of 7", 6, at(1, 7, 1).safeIn());
        Checks.due("48 phases in seconds of 48", Checks.NONE, at(8, 48, 0).safeIn());
        Checks.due("48 phases in seconds of 48", Checks.NONE, at(8, 48, 47).safeIn());
        Checks.due("48 phases in seconds of 49", 48, at(8, 49, 1).safeIn());
        Checks.due("12 phases in seconds of 12", Checks.NONE, at(2, 12, 0).safeIn());
        Checks.due("12 phases in seconds of 4", Checks.NONE, at(2, 4, 0).safeIn());
        Chip chip = at(2, 12, 5);
        String before = Checks.stateOf(chip);
        chip.safeIn();
        Checks.same("nothing is done", before, Checks.stateOf(chip));
    }

    private static Chip aheadOfTick(int phases, int order) {
        Chip chip = Checks.showing(0x59, 0x59, 0x23, 7, 0x31, 0x12, 0x99);
        chip.set(2, 60);
        chip.set(1, order);
        chip.arm(0, 31);
        chip.pass(60 - phases);
        return chip;
    }

    private static void ifBurstIsMadeNow() {
        Checks.sentence("Promise 18", "Tells about a burst, if it was made now.");
        for (int mode = 0; mode <= 2; mode++) {
            for (int phases = 1; phases <= 16; phases++) {
                for (int order = 0; order <= 1; order++) {
                    Chip chip = aheadOfTick(phases, order);
                    Chip made = aheadOfTick(phases, order);
                    made.burst(mode);
                    for (int what = 0; what <= 9; what++) {
                        String run = "ifBurst(" + mode + ", " + what + "), the tick in " + phases;
                        Checks.due(run, made.log(0, what), chip.ifBurst(mode, what));
                    }
                }
            }
        }
        Chip chip = aheadOfTick(1, 0);
        Checks.due("torn", 1, chip.ifBurst(0, 8));
        Checks.due("mode", 0, chip.ifBurst(0, 7));
        Checks.due("made", 1, chip.ifBurst(0, 9));
        Checks.due("mode", 1, chip.ifBurst(1, 7));
        Checks.due("mode", 2, chip.ifBurst(2, 7));
        Checks.due("made: torn, new, new", 3, chip.ifBurst(2, 9));
    }

    private static void ifBurstIsNotMade() {
        Checks.sentence("Promise 18", "if it was made now");
        for (int mode = 0; mode <= 2; mode++) {
            Chip chip = aheadOfTick(1, 0);
            chip.burst(0);
            int states = chip.count(12);
            Checks.due("first", chip.ifBurst(mode, 0), chip.ifBurst(mode, 0));
            Chip other = aheadOfTick(1, 0);
            other.burst(0);
            Checks.same("state behind ifBurst(" + mode + ", 0)", Checks.stateOf(other), Checks.stateOf(chip));
            Checks.due("states", states, chip.count(12));
            chip.undo();
            Checks.same("state ahead of it", Checks.stateOf(aheadOfTick(1, 0)), Checks.stateOf(chip));
        }
        Chip unlogged = new Chip();
        unlogged.ifBurst(0, 8);
        Checks.due("share", Checks.NONE, unlogged.share());
        Checks.due("log", Checks.NONE, unlogged.log(0, 0));
    }

    private static void comesFrom1On() {
        Checks.sentence("Promise 19", "Returns how many, from 1 on");
        Chip chip = new Chip();
        chip.arm(0, 30);
        Checks.due("it matches now, and comes in a minute", 60, chip.comesIn(0));
        chip.pass(15);
        Checks.due("phases are no matter", 60, chip.comesIn(0));
        chip.pass(1);
        Checks.due("one tick later", 59, chip.comesIn(0));
        chip.write(0, 0x59);
        Checks.due("with the next tick", 1, chip.comesIn(0));
        chip.arm(0, 31);
        Checks.due("it matches always", 1, chip.comesIn(0));
        chip.pass(16);
        Checks.due("and it came", 1, chip.alarmOf(0, 8));
        Checks.due("each tick", 1, chip.comesIn(0));
    }

    /** The alarm 1 is armed for this second of the hour of now, or one of the next. */
    private static Chip armedFor(int hours, int minutes, int seconds) {
        Chip chip = new Chip();
        chip.alarm(1, 0, Checks.code(seconds));
        chip.alarm(1, 1, Checks.code(minutes));
        chip.alarm(1, 2, Checks.code(hours));
        chip.arm(1, 24);
        return chip;
    }

    private static void comesWithin4000() {
        Checks.sentence("Promise 19", "NOT_FOUND if that is not within 4000.");
        int[] ticks = {1, 2, 59, 60, 61, 3599, 3600, 3601, 3998, 3999, 4000, 4001, 4002, 7200, 86399};
        for (int tick : ticks) {
            Chip chip = armedFor(tick / 3600, tick / 60 % 60, tick % 60);
            Checks.due("in " + tick, tick <= 4000 ? tick : Checks.NONE, chip.comesIn(1));
        }
        Chip chip = armedFor(1, 6, 41);
        Checks.due("in 4001", Checks.NONE, chip.comesIn(1));
        chip.pass(16);
        Checks.due("a tick later", 4000, chip.comesIn(1));
        chip.pass(16);
        Checks.due("a tick later", 3999, chip.comesIn(1));
        Chip aDay = armedFor(0, 0, 0);
        Checks.due("it matches now, and then in a day", Checks.NONE, aDay.comesIn(1));
    }

    private static void comesIfNotArmed() {
        Checks.sentence("Promise 19", "NOT_POSSIBLE if it is not armed");
        for (int alarm = 0; alarm < 3; alarm++) {
            Chip chip = new Chip();
            Checks.due("at first", Checks.IMPOSSIBLE, chip.comesIn(alarm));
            chip.arm((alarm + 1) % 3, 31);
            Checks.due("another one is armed", Checks.IMPOSSIBLE, chip.comesIn(alarm));
            chip.arm(alarm, 31);
            Checks.due("armed", 1, chip.comesIn(alarm));
            chip.arm(alarm, -1);
            Checks.due("not armed any more", Checks.IMPOSSIBLE, chip.comesIn(alarm));
            chip.undo();
            Checks.due("armed again", 1, chip.comesIn(alarm));
        }
    }

    private static void comesNever() {
        Checks.sentence("Promise 19", "NOT_FOUND if that is not within 4000");
        Chip chip = new Chip();
        chip.alarm(0, 0, 0x60);
        chip.arm(0, 30);
        Checks.due("60 seconds are never", Checks.NONE, chip.comesIn(0));
        chip.write(0, 0x61);
        Checks.due("61 seconds go on to F9, then 0 to 59", Checks.NONE, chip.comesIn(0));
        chip.write(0, 0x5A);
        Checks.due("5A seconds step on to 60", 1, chip.comesIn(0));
        chip.write(0, 0);
        chip.alarm(0, 0, 0x0A);
        Checks.due("no step leads to a digit of 10", Checks.NONE, chip.comesIn(0));
        chip.fail(0, 1, 1);
        chip.fail(0, 3, 1);
        Checks.due("but a cell does", 16, chip.comesIn(0));
    }

    private static void comesIfNothingElseIsDone() {
        Checks.sentence("Promise 19", "Tells in how many ticks an alarm comes next, if nothing else is done.");
        Chip chip = Checks.showing(0x30, 0x59, 0x23, 7, 0x31, 0x12, 0x99);
        chip.alarm(2, 3, 1);
        chip.alarm(2, 4, 1);
        chip.arm(2, 7);
        Checks.due("with the first day of the year", 30, chip.comesIn(2));
        Checks.due("asked again", 30, chip.comesIn(2));
        chip.arm(2, 0);
        Checks.due("the same with all values", 30, chip.comesIn(2));
        Chip other = Checks.showing(0x30, 0x59, 0x23, 7, 0x31, 0x12, 0x99);
        other.alarm(2, 3, 1);
        other.alarm(2, 4, 1);
        other.arm(2, 7);
        other.arm(2, 0);
        Checks.same("nothing is done", Checks.stateOf(other), Checks.stateOf(chip));
        chip.pass(16 * 29);
        Checks.due("not yet", 0, chip.alarmOf(2, 8));
        chip.pass(16);
        Checks.due("it came", 1, chip.alarmOf(2, 8));
        Chip february = Checks.showing(0x59, 0x59, 0x23, 7, 0x28, 0x02, 0x04);
        february.alarm(2, 4, 0x29);
        february.arm(2, 15);
        Checks.due("by the leap year", 1, february.comesIn(2));
        february.write(6, 0x03);
        Checks.due("not in the year 3", Checks.NONE, february.comesIn(2));
    }

    private static void shareAsAFloat() {
        Checks.sentence("Promise 20", "Returns the share of bursts so far that were torn, as a float: these, as a float, divided by all, as a"
            + " float.");
        for (int torn = 0; torn <= 4; torn++) {
            Chip chip = new Chip();
            chip.set(2, 60);
            for (int i = 0; i < torn; i++) {
                chip.pass(60 - chip.count(0) + 59);
                chip.write(0, 0x59);
                Checks.due("torn", 1, chip.burst(0));
            }
            for (int all = Math.max(torn, 1); all <= 100; all++) {
                if (all > torn) {
                    chip.burst(1);
                }
                int want = Float.floatToIntBits((float) torn / (float) all);
                Checks.due("share of " + torn + " in " + all, want, chip.share());
            }
        }
        Chip chip = new Chip();
        chip.burst(0);
        Checks.due("0.0f", 0, chip.share());
        chip.pass(1);
        chip.write(0, 0x59);
        Checks.due("torn", 1, chip.burst(0));
        Checks.due("0.5f", 0x3F000000, chip.share());
        chip.undo();
        Checks.due("undone", 0, chip.share());
        manyTorn();
    }

    /** Text after text of bursts: shares whose numbers are large. */
    private static void manyTorn() {
        Chip chip = new Chip();
        chip.set(0, 8);
        chip.set(2, 4);
        Checks.type(chip, "b0;b0;b0;b0;b0;b0;b0;b0;b0;b0;b0;b0;b0;b0;b0;b0;b0;b0;b0;");
        int all = 0;
        int torn = 0;
        while (chip.callsLeft() >= 4) {
            chip.play();
            all = chip.count(6);
            torn = chip.count(7);
            Checks.due("share", Float.floatToIntBits((float) torn / (float) all), chip.share());
        }
        Checks.due("many bursts", 1, all > 2000 ? 1 : 0);
        Checks.due("some of them torn", 1, torn > 50 && torn < all - 50 ? 1 : 0);
    }

    private static void shareBits() {
        Checks.sentence("Promise 20", "Returns the bits of the float");
        Chip chip = new Chip();
        chip.set(2, 60);
        chip.pass(59);
        chip.write(0, 0x59);
        Checks.due("torn", 1, chip.burst(0));
        Checks.due("1.0f", 0x3F800000, chip.share());
        int[] bits = {0x3F000000, 0x3EAAAAAB, 0x3E800000, 0x3E4CCCCD, 0x3E2AAAAB, 0x3E124925, 0x3E000000};
        for (int all = 2; all <= 8; all++) {
            chip.burst(1);
            Checks.due("1 of " + all, bits[all - 2], chip.share());
        }
    }

    private static void shareWithoutBursts() {
        Checks.sentence("Promise 20", "NOT_FOUND without bursts.");
        Chip chip = new Chip();
        Checks.due("at first", Checks.NONE, chip.share());
        chip.read(0);
        chip.ifBurst(0, 8);
        Checks.due("no burst", Checks.NONE, chip.share());
        chip.burst(1);
        Checks.due("none is torn", 0, chip.share());
        chip.undo();
        Checks.due("undone", Checks.NONE, chip.share());
    }

    private static void countOfTime() {
        Checks.sentence("Promise 21", "0: the phase of now; 1: ticks so far");
        Chip chip = new Chip();
        chip.pass(15);
        Checks.due("phase", 15, chip.count(0));
        Checks.due("ticks", 0, chip.count(1));
        Checks.due("phases", 15, chip.count(10));
        chip.read(0);
        Checks.due("phase", 1, chip.count(0));
        Checks.due("ticks", 1, chip.count(1));
        Checks.due("phases", 17, chip.count(10));
        chip.burst(1);
        Checks.due("phase", 15, chip.count(0));
        Checks.due("phases", 31, chip.count(10));
        chip.set(2, 4);
        Checks.due("phase", 3, chip.count(0));
        Checks.due("phases", 31, chip.count(10));
        chip.undo();
        chip.undo();
        Checks.due("phases", 17, chip.count(10));
        Checks.due("ticks", 1, chip.count(1));
    }

    private static void countOfSets() {
        Checks.sentence("Promise 21", "2: registers that are not right, as a set; 3: alarms whose flags are set, as a set; 4: how often alarms"
            + " came so far; 5: cells that have failed");
        for (int wrong = 0; wrong < 128; wrong++) {
            Chip chip = new Chip();
            for (int register = 0; register < 7; register++) {
                if ((wrong >> register & 1) == 1) {
                    chip.write(register, 0xAA);
                }
            }
            Checks.due("not right", wrong, chip.count(2));
        }
        Chip day = Checks.showing(0, 0, 0, 1, 0x31, 0x04, 0);
        Checks.due("the day by its month", 1 << 4, day.count(2));
        day.write(5, 0x13);
        Checks.due("the month, and the day no more", 1 << 5, day.count(2));
        Chip alarms = new Chip();
        alarms.arm(2, 31);
        alarms.arm(1, 31);
        alarms.pass(48);
        Checks.due("flags", 6, alarms.count(3));
        Checks.due("came", 6, alarms.count(4));
        alarms.clear();
        Checks.due("flags", 0, alarms.count(3));
        Checks.due("came", 6, alarms.count(4));
        Checks.due("cells", 0, alarms.count(5));
        alarms.fail(0, 0, 0);
        alarms.fail(6, 7, 1);
        Checks.due("cells", 2, alarms.count(5));
    }

    private static void countOfBursts() {
        Checks.sentence("Promise 21", "6: bursts so far, each call or order one, also in the mode 2; 7: torn ones");
        Chip chip = Checks.showing(0x59);
        chip.set(0, 8);
        chip.burst(2);
        Checks.due("five were made", 5, chip.log(0, 9));
        Checks.due("bursts", 1, chip.count(6));
        Checks.due("entries", 1, chip.count(11));
        chip.burst(0);
        chip.burst(1);
        Checks.due("bursts", 3, chip.count(6));
        Checks.type(chip, "b2;b1;b0;");
        chip.play();
        Checks.due("bursts", 6, chip.count(6));
        Checks.due("entries", 6, chip.count(11));
        chip.play();
        Checks.due("bursts", 9, chip.count(6));
        Checks.due("entries", 6, chip.count(11));
        Chip torn = Checks.showing(0x59, 0x59, 0x23);
        torn.pass(15);
        torn.burst(0);
        Checks.due("torn ones", 1, torn.count(7));
        torn.burst(1);
        Checks.due("torn ones", 1, torn.count(7));
        for (int i = 0; i < 6; i++) {
            torn.burst(1);
        }
        Checks.due("none in the log any more", 0, torn.log(5, 8));
        Checks.due("torn ones", 1, torn.count(7));
    }

    private static void countOfReadsAndWritings() {
        Checks.sentence("Promise 21", "8: reads of single registers so far; 9: writings so far; 10: phases so far");
        Chip chip = new Chip();
        chip.burst(0);
        chip.burst(1);
        chip.burst(2);
        Checks.due("the reads of bursts are no single ones", 0, chip.count(8));
        chip.read(0);
        chip.read(0);
        Checks.due("reads", 2, chip.count(8));
        chip.write(0, 0);
        Checks.due("writings", 1, chip.count(9));
        chip.alarm(0, 0, 1);
        chip.fail(0, 0, 1);
        chip.heal(0, 0);
        chip.set(0, 1);
        Checks.due("writings of registers alone", 1, chip.count(9));
        Checks.type(chip, "r0;r1;w1,1;w2,2;w3,3;");
        chip.play();
        Checks.due("reads by orders", 4, chip.count(8));
        Checks.due("writings by orders", 4, chip.count(9));
        Checks.due("phases: 14, 14, 28, 4 and 2 of one each", 14 + 14 + 14 * (chip.log(0, 9)) + 4 + 2, chip.count(10));
    }

    private static void countOfStatesAndText() {
        Checks.sentence("Promise 21", "11: entries of the log; 12: states in the history; 13: the length of the text; 20 to 22: the settings 0"
            + " to 2");
        Chip chip = new Chip();
        for (int i = 1; i <= 8; i++) {
            chip.burst(1);
            chip.type('r');
            Checks.due("entries", Math.min(i, 6), chip.count(11));
            Checks.due("states", Math.min(i, 4), chip.count(12));
            Checks.due("length", i, chip.count(13));
        }
        chip.undo();
        Checks.due("entries", 6, chip.count(11));
        chip.undo();
        chip.undo();
        Checks.due("entries", 5, chip.count(11));
        Checks.due("length", 8, chip.count(13));
        chip.set(0, 8);
        chip.set(1, 1);
        chip.set(2, 60);
        Checks.due("setting 0", 8, chip.count(20));
        Checks.due("setting 1", 1, chip.count(21));
        Checks.due("setting 2", 60, chip.count(22));
    }

    private static void undoRestoresTheLatest() {
        Checks.sentence("Promise 22", "Restores the latest state of the history, which is removed from it.");
        Chip chip = new Chip();
        chip.write(6, 1);
        chip.pass(5);
        chip.write(6, 2);
        chip.undo();
        Checks.due("year", 1, chip.registerOf(6, 0));
        Checks.due("phase", 5, chip.count(0));
        Checks.due("states", 2, chip.count(12));
        chip.undo();
        Checks.due("year", 1, chip.registerOf(6, 0));
        Checks.due("phase", 0, chip.count(0));
        Checks.due("states", 1, chip.count(12));
        chip.burst(1);
        chip.undo();
        Checks.due("no burst", 0, chip.count(6));
        Checks.due("year", 1, chip.registerOf(6, 0));
        chip.undo();
        Checks.due("year", 0, chip.registerOf(6, 0));
        Checks.due("states", 0, chip.count(12));
    }

    private static void undoReturnsStatesLeft() {
        Checks.sentence("Promise 22", "Returns the number of states that are left in the history");
        for (int changes = 1; changes <= 6; changes++) {
            Chip chip = new Chip();
            for (int i = 1; i <= changes; i++) {
                chip.write(6, i);
            }
            int year = changes;
            for (int left = Math.min(changes, 4) - 1; left >= 0; left--) {
                Checks.due("undo()", left, chip.undo());
                year--;
                Checks.due("year", year, chip.registerOf(6, 0));
            }
        }
    }

    private static void undoOfNothing() {
        Checks.sentence("Promise 22", "NOT_POSSIBLE if it is empty.");
        Chip chip = new Chip();
        Checks.due("at first", Checks.IMPOSSIBLE, chip.undo());
        chip.write(0, 1);
        Checks.due("one", 0, chip.undo());
        Checks.due("empty", Checks.IMPOSSIBLE, chip.undo());
        chip.type('r');
        chip.clearText();
        chip.readable();
        Checks.due("no changes", Checks.IMPOSSIBLE, chip.undo());
        chip.write(7, 1);
        Checks.due("nor an error", Checks.IMPOSSIBLE, chip.undo());
    }

    private static void typeAppends() {
        Checks.sentence("Promise 23", "Appends a character to the text.");
        Chip chip = new Chip();
        for (int character = 32; character <= 126; character++) {
            boolean isOrder = "wrbpam".indexOf(character) >= 0;
            chip.type(character);
            Checks.due("the text is " + character, isOrder ? 1 : 0, chip.fault(2));
            Checks.due("length", 1, chip.clearText());
        }
        Checks.type(chip, "r0;r1");
        Checks.due("not closed", 3, chip.fault(0));
        chip.type(';');
        Checks.due("closed", Checks.NONE, chip.fault(0));
        chip.type(' ');
        Checks.due("a character more", 6, chip.fault(0));
        Checks.due("no change", 0, chip.count(12));
    }

    private static void typeReturnsLength() {
        Checks.sentence("Promise 23", "Returns the length of the text");
        Chip chip = new Chip();
        for (int length = 1; length <= 60; length++) {
            Checks.due("type", length, chip.type(length % 2 == 0 ? 32 : 126));
            Checks.due("length", length, chip.count(13));
        }
        chip.clearText();
        Checks.due("type", 1, chip.type(59));
        Chip order = new Chip();
        Checks.type(order, "w6,123;");
        order.play();
        Checks.due("the characters in their order", 123, order.registerOf(6, 0));
    }

    private static void typeBeyond60() {
        Checks.sentence("Promise 23", "LIMIT_REACHED if it has 60 characters.");
        Chip chip = new Chip();
        for (int length = 1; length <= 59; length++) {
            chip.type('r');
        }
        Checks.due("the 60th", 60, chip.type('r'));
        Checks.due("the 61st", Checks.LIMIT, chip.type('r'));
        Checks.due("the 61st", Checks.LIMIT, chip.type(126));
        Checks.due("length", 60, chip.count(13));
        chip.play();
        Checks.due("still", Checks.LIMIT, chip.type('r'));
        chip.clearText();
        Checks.due("room", 1, chip.type('r'));
    }

    private static void clearTextReturnsLength() {
        Checks.sentence("Promise 24", "Returns the length it had.");
        for (int length = 0; length <= 60; length++) {
            Chip chip = new Chip();
            for (int i = 0; i < length; i++) {
                chip.type('x');
            }
            Checks.due("clearText()", length, chip.clearText());
            Checks.due("length", 0, chip.count(13));
            Checks.due("no fault", Checks.NONE, chip.fault(0));
            Checks.due("clearText() again", 0, chip.clearText());
            Checks.due("no change", 0, chip.count(12));
        }
    }

    private static void noFault() {
        Checks.sentence("Promise 25", "NOT_FOUND if the text has no fault (also if it is empty).");
        ToIntFunction<String> faults = orders -> {
            Chip chip = new Chip();
            Checks.type(chip, orders);
            int found = 0;
            for (int what = 0; what <= 2; what++) {
                found += chip.fault(what) == Checks.NONE ? 0 : 1;
            }
            return found;
        };
        Checks.due("empty", 0, faults.applyAsInt(""));
        Checks.due("one order", 0, faults.applyAsInt("r0;"));
        Checks.due("many orders", 0, faults.applyAsInt("w6,255;r6;b2;p999;a2,4,255;m2,31;"));
        Checks.due("not closed", 3, faults.applyAsInt("r0"));
        Checks.due("a fault behind others", 3, faults.applyAsInt("r0;r0;r0;r7;"));
    }

    private static void playDoesAllOrders() {
        Checks.sentence("Promise 26", "Does all orders of the text, which stays.");
        Chip chip = new Chip();
        Checks.type(chip, "w0,89;p15;r1;b1;w1,8;a2,1,8;m2,29;p960;");
        Checks.due("play", 8, chip.play());
        Checks.due("the text stays", 39, chip.count(13));
        // The minute is 8 as it is written behind the tick; 60 ticks later it is 9.
        Checks.due("minutes", 9, chip.registerOf(1, 0));
        Checks.due("the alarm came while it was 8", 59, chip.alarmOf(2, 8));
        Checks.due("phases", 15 + 2 + 14 + 960, chip.count(10));
        Checks.due("reads", 1, chip.count(8));
        Checks.due("bursts", 1, chip.count(6));
        Checks.due("writings", 2, chip.count(9));
        Checks.due("once more", 8, chip.play());
        Checks.due("writings", 4, chip.count(9));
    }

    private static void playReturnsOrders() {
        Checks.sentence("Promise 26", "Returns how many there are in it");
        Chip chip = new Chip();
        for (int orders = 0; orders <= 20; orders++) {
            Checks.due("play", orders, chip.play());
            if (orders < 20) {
                Checks.type(chip, "r1;");
            }
        }
        Checks.due("reads", 210, chip.count(8));
    }

    private static void playIsOneChange() {
        Checks.sentence("Promise 26", "They are one change, also if there are none.");
        Chip chip = new Chip();
        Checks.due("none", 0, chip.play());
        Checks.due("states", 1, chip.count(12));
        Checks.type(chip, "w6,1;w6,2;w6,3;w6,4;w6,5;w6,6;");
        Checks.due("six", 6, chip.play());
        Checks.due("states", 2, chip.count(12));
        Checks.due("year", 6, chip.registerOf(6, 0));
        Checks.due("undo()", 1, chip.undo());
        Checks.due("year", 0, chip.registerOf(6, 0));
        Checks.due("undo()", 0, chip.undo());
        Checks.due("undo()", Checks.IMPOSSIBLE, chip.undo());
        Checks.due("the text stays", 30, chip.count(13));
    }

    private static void playOfAFault() {
        Checks.sentence("Promise 26", "NOT_POSSIBLE if it has a fault.");
        String[] faults = {"x", ";", "r", "r0", "r0;x", "w6,1;r7;", "w6,1;w6,2;w6,256;", "w6,1;p0;", "w6,1;b3;", "w6,1;a3,0,0;",
            "w6,1;m0,32;"};
        for (String orders : faults) {
            Chip chip = new Chip();
            Checks.type(chip, orders);
            Checks.due("play of " + orders, Checks.IMPOSSIBLE, chip.play());
            Checks.due("nothing is done", 0, chip.registerOf(6, 0));
            Checks.due("states", 0, chip.count(12));
            Checks.retype(chip, "w6,1;");
            Checks.due("play without the fault", 1, chip.play());
        }
    }
}
