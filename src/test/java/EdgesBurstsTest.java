/** The sentences of 'Reads, bursts' that name boundary cases, each with a test of its own. */
public final class EdgesBurstsTest {
    private static final String IN = "Reads, bursts";
    /** The last second of all: behind the next tick each register shows something else. */
    private static final int[] OLD = {0x59, 0x59, 0x23, 0x07, 0x31, 0x12, 0x99};
    private static final int[] NEW = {0x00, 0x00, 0x00, 0x01, 0x01, 0x01, 0x00};

    public static void main(String[] args) {
        readSeesThenPasses();
        readInNoTime();
        readOfMorePhasesThanASecond();
        inTurn();
        atOnce();
        atOnceInNoTime();
        untilAlike();
        atMostFive();
        untilAlikePasses();
        notTornAtItsBeginning();
        notTornBehindSomeTick();
        notTornBehindAMiddleTick();
        tornAllTogether();
        upToItsLastRead();
        lastReadOfTheOtherOrder();
        twelveTicks();
        ofThisBurstAlone();
        atOnceIsNeverTorn();
        beginningOfTheLastBurst();
        lastOneIsTold();
        nothingIsWritten();
        Checks.end("EdgesBurstsTest");
    }

    /** A chip whose next tick is so many phases ahead. */
    private static Chip tickIn(int phases, int readPhases, int order, int... shown) {
        Chip chip = Checks.showing(shown);
        chip.set(0, readPhases);
        chip.set(1, order);
        chip.set(2, 60);
        if (phases < 60) {
            chip.pass(60 - phases);
        }
        return chip;
    }

    private static void readSeesThenPasses() {
        Checks.sentence(IN, "To read a register is to see its value; then setting 0 phases pass.");
        for (int register = 0; register < 7; register++) {
            for (int readPhases = 1; readPhases <= 8; readPhases++) {
                Chip chip = tickIn(readPhases, readPhases, 0, OLD);
                Checks.due("seen ahead of the tick", OLD[register], chip.read(register));
                Checks.due("the tick is in it", 1, chip.count(1));
                Checks.due("value behind it", NEW[register], chip.registerOf(register, 0));
                Checks.due("phase", 0, chip.count(0));
                Checks.due("seen behind the tick", NEW[register], chip.read(register));
                chip = tickIn(readPhases + 1, readPhases, 0, OLD);
                Checks.due("seen ahead of the tick", OLD[register], chip.read(register));
                Checks.due("the tick is not in it", 0, chip.count(1));
                Checks.due("value behind it", OLD[register], chip.registerOf(register, 0));
                Checks.due("phase", 59, chip.count(0));
            }
        }
    }

    private static void readInNoTime() {
        Checks.sentence(IN, "then setting 0 phases pass");
        Chip chip = tickIn(1, 0, 0, OLD);
        for (int register = 0; register < 7; register++) {
            Checks.due("read(" + register + ")", OLD[register], chip.read(register));
        }
        Checks.due("no tick", 0, chip.count(1));
        Checks.due("phase", 59, chip.count(0));
        Checks.due("phases", 59, chip.count(10));
        Checks.due("not torn", 0, chip.burst(0));
        Checks.due("not torn", 0, chip.burst(2));
        Checks.due("two alike", 2, chip.log(0, 9));
        Checks.due("phases", 59, chip.count(10));
    }

    private static void readOfMorePhasesThanASecond() {
        Checks.sentence(IN, "then setting 0 phases pass");
        Chip chip = new Chip();
        chip.set(0, 8);
        chip.set(2, 4);
        Checks.due("seen ahead of both ticks", 0, chip.read(0));
        Checks.due("two ticks", 2, chip.count(1));
        Checks.due("seen behind them", 2, chip.read(0));
        Checks.due("phase", 0, chip.count(0));
        chip.pass(3);
        Checks.due("seen ahead of them", 4, chip.read(0));
        Checks.due("two ticks more", 6, chip.count(1));
        Checks.due("phase", 3, chip.count(0));
    }

    /** Each register is new if the tick is not behind the phases of the reads ahead of its own. */
    private static void inTurn() {
        Checks.sentence(IN, "mode 0: one after the other, from 0 to 6 if setting 1 is 0, from 6 to 0 if it is 1;");
        for (int order = 0; order <= 1; order++) {
            for (int readPhases = 1; readPhases <= 8; readPhases++) {
                for (int tick = 1; tick <= 7 * readPhases + 1; tick++) {
                    int[] want = new int[7];
                    for (int turn = 0; turn < 7; turn++) {
                        int register = order == 0 ? turn : 6 - turn;
                        want[register] = tick <= turn * readPhases ? NEW[register] : OLD[register];
                    }
                    String run = "order " + order + ", " + readPhases + " phases a read, tick in " + tick;
                    Chip chip = tickIn(tick, readPhases, order, OLD);
                    Checks.due("torn: " + run, tick <= 6 * readPhases ? 1 : 0, chip.burst(0));
                    Checks.same("told: " + run, Checks.told(want), Checks.toldBy(chip));
                    Checks.due("ticks: " + run, tick <= 7 * readPhases ? 1 : 0, chip.count(1));
                    Checks.due("phases: " + run, 60 - tick + 7 * readPhases, chip.count(10));
                    Checks.due("made", 1, chip.log(0, 9));
                    Checks.due("mode", 0, chip.log(0, 7));
                }
            }
        }
    }

    private static void atOnce() {
        Checks.sentence(IN, "mode 1: all are seen at once; then 7 times setting 0 phases pass;");
        for (int readPhases = 1; readPhases <= 8; readPhases++) {
            for (int tick = 1; tick <= 7 * readPhases + 1; tick += tick < 7 * readPhases - 1 ? readPhases : 1) {
                Chip chip = tickIn(tick, readPhases, tick % 2, OLD);
                Checks.due("torn", 0, chip.burst(1));
                Checks.same("told, tick in " + tick, Checks.told(OLD), Checks.toldBy(chip));
                Checks.same("shown behind it", Checks.told(tick <= 7 * readPhases ? NEW : OLD), Checks.shownBy(chip));
                Checks.due("phases", 60 - tick + 7 * readPhases, chip.count(10));
                Checks.due("made", 1, chip.log(0, 9));
                Checks.due("mode", 1, chip.log(0, 7));
            }
        }
    }

    private static void atOnceInNoTime() {
        Checks.sentence(IN, "then 7 times setting 0 phases pass");
        Chip chip = tickIn(1, 0, 0, OLD);
        Checks.due("torn", 0, chip.burst(1));
        Checks.same("told", Checks.told(OLD), Checks.toldBy(chip));
        Checks.due("phases", 59, chip.count(10));
        Checks.due("no tick", 0, chip.count(1));
        Checks.due("logged", 1, chip.count(11));
    }

    /** 7 phases a burst; the ticks are in tick, tick + second, and so on. */
    private static Chip untilAlike(int second, int tick) {
        Chip chip = new Chip();
        chip.set(0, 1);
        chip.set(2, second);
        if (tick < second) {
            chip.pass(second - tick);
        }
        chip.burst(2);
        return chip;
    }

    private static void made(int second, int tick, int want, int seconds) {
        Chip chip = untilAlike(second, tick);
        String run = "seconds of " + second + ", the tick in " + tick;
        Checks.due("made: " + run, want, chip.log(0, 9));
        Checks.due("the last one tells: " + run, seconds, chip.log(0, 0));
        Checks.due("phases: " + run, (tick < second ? second - tick : 0) + 7 * want, chip.count(10));
        Checks.due("bursts: " + run, 1, chip.count(6));
        Checks.due("entries: " + run, 1, chip.count(11));
    }

    /** The seconds are seen behind 0, 7, 14, 21 and 28 phases. */
    private static void untilAlike() {
        Checks.sentence(IN, "mode 2: bursts of the mode 0 follow one another until one tells the same as the one ahead of it");
        made(60, 60, 2, 0);
        made(60, 8, 2, 0);
        made(60, 7, 3, 1);
        made(60, 1, 3, 1);
        made(14, 14, 2, 0);
        made(14, 7, 3, 1);
        made(14, 1, 3, 1);
        made(13, 1, 4, 2);
        made(12, 2, 4, 2);
        made(9, 2, 5, 3);
        made(8, 5, 5, 3);
    }

    private static void atMostFive() {
        Checks.sentence(IN, "at most 5 of them; the last one is told.");
        made(7, 7, 5, 4);
        made(7, 1, 5, 4);
        made(8, 1, 5, 4);
        made(4, 4, 5, 7);
        // Here the fifth one is the first that is alike to the one ahead of it.
        made(9, 2, 5, 3);
    }

    private static void untilAlikePasses() {
        Checks.sentence(IN, "bursts of the mode 0 follow one another");
        for (int readPhases = 0; readPhases <= 8; readPhases++) {
            Chip chip = new Chip();
            chip.set(0, readPhases);
            chip.set(2, 60);
            chip.burst(2);
            Checks.due("made", 2, chip.log(0, 9));
            Checks.due("phases", 2 * 7 * readPhases, chip.count(10));
            Checks.due("mode", 2, chip.log(0, 7));
        }
        // The ticks are in 5, 12, 19, 26 and 33; of the fifth burst the seconds are read in 28, or in 34.
        Chip fifth = untilAlike(7, 5);
        Checks.due("made", 5, fifth.log(0, 9));
        Checks.due("from 0 to 6: the seconds are read first", 4, fifth.log(0, 0));
        fifth = new Chip();
        fifth.set(1, 1);
        fifth.set(0, 1);
        fifth.set(2, 7);
        fifth.pass(2);
        fifth.burst(2);
        Checks.due("made", 5, fifth.log(0, 9));
        Checks.due("from 6 to 0: the seconds are read last", 5, fifth.log(0, 0));
        Chip backwards = tickIn(5, 1, 1, OLD);
        Checks.due("not torn", 0, backwards.burst(2));
        Checks.due("torn first, then twice the new time", 3, backwards.log(0, 9));
        Checks.same("told", Checks.told(NEW), Checks.toldBy(backwards));
        backwards = tickIn(7, 1, 1, OLD);
        backwards.burst(2);
        Checks.due("from 6 to 0: the first one is old, the next two are new", 3, backwards.log(0, 9));
        backwards = tickIn(13, 1, 1, OLD);
        Checks.due("the second one is torn, as the year is seen ahead of the tick", 0, backwards.burst(2));
        Checks.due("old, torn, new, new", 4, backwards.log(0, 9));
    }

    private static void notTornAtItsBeginning() {
        Checks.sentence(IN, "A burst is torn, if what is told was not what all registers showed, all together, at its beginning");
        Chip chip = tickIn(15, 2, 0, OLD);
        Checks.due("no tick in it", 0, chip.burst(0));
        chip = tickIn(13, 2, 0, OLD);
        Checks.due("a tick behind the last read", 0, chip.burst(0));
        Checks.same("told", Checks.told(OLD), Checks.toldBy(chip));
        chip = tickIn(1, 2, 0, 0x10, 0x20, 0x10, 5, 5, 5, 5);
        Checks.due("the seconds alone are another, and were read first", 0, chip.burst(0));
        Checks.due("told", 0x10, chip.log(0, 0));
    }

    private static void notTornBehindSomeTick() {
        Checks.sentence(IN, "or behind some tick up to its last read");
        Chip chip = tickIn(12, 2, 1, 0x10, 0x20, 0x10, 5, 5, 5, 5);
        Checks.due("the seconds are read last, just behind the tick", 0, chip.burst(0));
        Checks.due("told", 0x11, chip.log(0, 0));
        chip = tickIn(13, 2, 1, 0x10, 0x20, 0x10, 5, 5, 5, 5);
        Checks.due("the seconds are read last, just ahead of the tick", 0, chip.burst(0));
        Checks.due("told", 0x10, chip.log(0, 0));
        chip = tickIn(10, 2, 1, 0x59, 0x20, 0x10, 5, 5, 5, 5);
        Checks.due("seconds and minutes are read just behind the tick", 0, chip.burst(0));
        Checks.due("told", 0x21, chip.log(0, 1));
        chip = tickIn(11, 2, 1, 0x59, 0x20, 0x10, 5, 5, 5, 5);
        Checks.due("the minutes are read just ahead of the tick", 1, chip.burst(0));
        Checks.due("told", 0x20, chip.log(0, 1));
    }

    /** The seconds always are 59 by their cells, so each tick is a minute. */
    private static Chip ticksAreMinutes(int readPhases, int second) {
        Chip chip = Checks.showing(0x59);
        for (int bit = 0; bit < 8; bit++) {
            chip.fail(0, bit, 0x59 >> bit & 1);
        }
        chip.set(0, readPhases);
        chip.set(2, second);
        return chip;
    }

    private static void notTornBehindAMiddleTick() {
        Checks.sentence(IN, "all together, at its beginning, or behind some tick");
        Chip chip = ticksAreMinutes(8, 4);
        Checks.due("told as it was behind the second tick of 12", 0, chip.burst(0));
        Checks.same("told", Checks.told(0x59, 2, 0, 6, 1, 1, 0), Checks.toldBy(chip));
        Checks.due("ticks", 14, chip.count(1));
        chip.write(1, 0x57);
        Checks.due("59 minutes, but of the next hour", 1, chip.burst(0));
        Checks.same("told", Checks.told(0x59, 0x59, 1, 6, 1, 1, 0), Checks.toldBy(chip));
        chip = ticksAreMinutes(4, 4);
        Checks.due("told as it was behind the first tick of 6", 0, chip.burst(0));
        Checks.due("minutes", 1, chip.log(0, 1));
        chip.set(1, 1);
        Checks.due("told as it was behind the fifth tick of 6", 0, chip.burst(0));
        Checks.due("minutes", 12, 10 * (chip.log(0, 1) >> 4) + (chip.log(0, 1) & 15));
    }

    private static void tornAllTogether() {
        Checks.sentence(IN, "not what all registers showed, all together");
        // Each register was shown so, but not with the others.
        Chip chip = tickIn(1, 1, 0, 0x59, 0x10, 0x10, 5, 5, 5, 5);
        Checks.due("59 seconds of the next minute", 1, chip.burst(0));
        Checks.same("told", Checks.told(0x59, 0x11, 0x10, 5, 5, 5, 5), Checks.toldBy(chip));
        chip = tickIn(2, 1, 0, 0x59, 0x10, 0x10, 5, 5, 5, 5);
        Checks.due("the minutes were read ahead", 0, chip.burst(0));
        chip = tickIn(2, 1, 0, 0x59, 0x59, 0x10, 5, 5, 5, 5);
        Checks.due("59:59 of the next hour", 1, chip.burst(0));
        chip = tickIn(6, 1, 0, OLD);
        Checks.due("the year alone is of the next second", 1, chip.burst(0));
        Checks.same("told", Checks.told(0x59, 0x59, 0x23, 7, 0x31, 0x12, 0), Checks.toldBy(chip));
        chip = tickIn(1, 1, 1, OLD);
        Checks.due("the year alone is of this second", 1, chip.burst(0));
        Checks.same("told", Checks.told(0, 0, 0, 1, 1, 1, 0x99), Checks.toldBy(chip));
    }

    private static void upToItsLastRead() {
        Checks.sentence(IN, "behind some tick up to its last read");
        // By the cells the seconds are 59 again two ticks later, with the minute that was told; from the last read on
        // that is too late. The ticks are tick and tick + 44 phases ahead; the last read is 48 phases ahead.
        for (int tick = 1; tick <= 8; tick++) {
            Chip chip = new Chip();
            chip.set(0, 8);
            chip.set(2, 44);
            chip.fail(0, 6, 1);
            chip.fail(0, 4, 1);
            chip.fail(0, 3, 1);
            chip.write(0, 0x59);
            chip.pass(44 - tick);
            Checks.due("torn, ticks in " + tick + " and " + (tick + 44), tick + 44 <= 48 ? 0 : 1, chip.burst(0));
            Checks.same("told", Checks.told(0x59, 1, 0, 6, 1, 1, 0), Checks.toldBy(chip));
            Checks.due("both ticks are in the burst", 2, chip.count(1));
            Checks.same("shown then", Checks.told(0x59, 1, 0, 6, 1, 1, 0), Checks.shownBy(chip));
        }
    }

    private static void lastReadOfTheOtherOrder() {
        Checks.sentence(IN, "up to its last read.");
        // The seconds are read last; a tick at that very phase is seen, one behind it is not.
        for (int readPhases = 1; readPhases <= 8; readPhases++) {
            Chip at = tickIn(6 * readPhases, readPhases, 1, 0x58, 0x59, 0x23, 7, 0x31, 0x12, 0x99);
            Checks.due("not torn", 0, at.burst(0));
            Checks.due("told", 0x59, at.log(0, 0));
            Chip behind = tickIn(6 * readPhases + 1, readPhases, 1, OLD);
            Checks.due("not torn", 0, behind.burst(0));
            Checks.same("told", Checks.told(OLD), Checks.toldBy(behind));
            Chip torn = tickIn(6 * readPhases, readPhases, 1, OLD);
            Checks.due("torn", 1, torn.burst(0));
            Checks.same("told", Checks.told(0, 0x59, 0x23, 7, 0x31, 0x12, 0x99), Checks.toldBy(torn));
        }
    }

    /** The most that there can be: 6 reads of 8 phases in seconds of 4. */
    private static void twelveTicks() {
        Checks.sentence(IN, "or behind some tick");
        for (int seconds = 0; seconds < 60; seconds++) {
            Chip chip = Checks.showing(Checks.code(seconds), 0x10);
            chip.set(0, 8);
            chip.set(1, 1);
            chip.set(2, 4);
            // The minutes are read behind 10 ticks, the seconds behind 12.
            boolean isBetween = seconds == 48 || seconds == 49;
            Checks.due("torn from " + seconds, isBetween ? 1 : 0, chip.burst(0));
            Checks.due("seconds", Checks.code((seconds + 12) % 60), chip.log(0, 0));
            Checks.due("minutes", seconds >= 50 ? 0x11 : 0x10, chip.log(0, 1));
            Checks.due("ticks", 14, chip.count(1));
        }
    }

    /** What was told was shown in an earlier burst, at its beginning or behind any of its 12 ticks; now it is torn. */
    private static void ofThisBurstAlone() {
        Checks.sentence(IN, "at its beginning, or behind some tick up to its last read.");
        for (int ticks = 0; ticks <= 12; ticks++) {
            for (int mode = 0; mode <= 2; mode++) {
                Chip chip = Checks.showing(Checks.code(59 - ticks), 0x01);
                chip.set(0, 8);
                chip.set(2, 4);
                chip.burst(mode);
                chip.set(2, 60);
                chip.set(0, 2);
                chip.pass(59 - chip.count(0));
                chip.write(1, 0x00);
                chip.write(0, 0x59);
                Checks.due("torn, shown behind " + ticks + " ticks of a burst before", 1, chip.burst(0));
                Checks.same("told", Checks.told(0x59, 1, 0, 6, 1, 1, 0), Checks.toldBy(chip));
            }
        }
    }

    private static void atOnceIsNeverTorn() {
        Checks.sentence(IN, "all are seen at once");
        for (int tick = 1; tick <= 60; tick++) {
            Chip chip = tickIn(tick, 8, 0, OLD);
            Checks.due("torn", 0, chip.burst(1));
        }
        Chip chip = new Chip();
        chip.set(0, 8);
        chip.set(2, 4);
        Checks.due("14 ticks in it", 0, chip.burst(1));
        Checks.due("ticks", 14, chip.count(1));
        Checks.due("told", 0, chip.log(0, 0));
    }

    private static void beginningOfTheLastBurst() {
        Checks.sentence(IN, "(In the mode 2 that is the beginning of the last burst.)");
        // By the cells the seconds are 58 and 59 in turn. The first burst tells 0:59:58, as the chip showed it then; the
        // second one tells it again, of 0:59:59 and 1:00:58: it is torn, though it was shown in the burst ahead of it.
        Chip chip = new Chip();
        chip.fail(0, 6, 1);
        chip.fail(0, 4, 1);
        chip.fail(0, 3, 1);
        chip.write(0, 0x59);
        chip.write(1, 0x58);
        chip.set(0, 1);
        chip.set(1, 1);
        chip.set(2, 6);
        chip.pass(5);
        Checks.due("the first burst alone is not torn", 0, chip.ifBurst(0, 8));
        Checks.due("it tells the minute", 0x59, chip.ifBurst(0, 1));
        Checks.due("the last one is torn", 1, chip.burst(2));
        Checks.due("made", 2, chip.log(0, 9));
        Checks.same("told", Checks.told(0x58, 0x59, 0, 6, 1, 1, 0), Checks.toldBy(chip));
        Checks.due("torn ones", 1, chip.count(7));
    }

    private static void lastOneIsTold() {
        Checks.sentence(IN, "the last one is told.");
        Chip chip = tickIn(1, 1, 0, OLD);
        Checks.due("the first one would be torn", 1, chip.ifBurst(0, 8));
        Checks.due("the last one is not", 0, chip.burst(2));
        Checks.same("told", Checks.told(NEW), Checks.toldBy(chip));
        Checks.due("torn ones", 0, chip.count(7));
        // The fifth one is torn, and alike to none.
        Chip fifth = Checks.showing(0x52);
        fifth.set(0, 8);
        fifth.set(2, 30);
        fifth.pass(10);
        Checks.due("torn", 1, fifth.burst(2));
        Checks.due("made", 5, fifth.log(0, 9));
        Checks.same("told", Checks.told(0x59, 1, 0, 6, 1, 1, 0), Checks.toldBy(fifth));
        Checks.due("torn ones", 1, fifth.count(7));
    }

    private static void nothingIsWritten() {
        Checks.sentence(IN, "What changed by writing is no matter, as nothing is written in a burst.");
        Chip chip = tickIn(30, 2, 0, OLD);
        chip.write(0, 0x10);
        chip.write(1, 0x11);
        int writings = chip.count(9);
        for (int mode = 0; mode <= 2; mode++) {
            Checks.due("not torn in the mode " + mode, 0, chip.ifBurst(mode, 8));
        }
        Checks.due("not torn", 0, chip.burst(0));
        Checks.due("writings", writings, chip.count(9));
        chip.write(0, 0x20);
        Checks.due("a writing behind it changes nothing in the log", 0x10, chip.log(0, 0));
    }
}
