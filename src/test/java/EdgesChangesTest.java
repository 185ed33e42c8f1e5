import java.util.function.Consumer;
import java.util.function.ToIntFunction;

/** The sentences of 'Settings' and 'Changes and errors' that name boundary cases, each with a test of its own. */
public final class EdgesChangesTest {
    private static final String SETTINGS = "Settings";
    private static final String IN = "Changes and errors";

    /** A call that is a change. */
    private record Change(String name, Consumer<Chip> call) {
    }

    /** A call that returns an error on the chip of richChip(). */
    private record Refused(String name, int error, ToIntFunction<Chip> call) {
    }

    private static final Change[] CHANGES = {
        new Change("write", chip -> chip.write(2, 0x09)),
        new Change("read", chip -> chip.read(2)),
        new Change("burst 0", chip -> chip.burst(0)),
        new Change("burst 1", chip -> chip.burst(1)),
        new Change("burst 2", chip -> chip.burst(2)),
        new Change("pass", chip -> chip.pass(1000)),
        new Change("alarm", chip -> chip.alarm(1, 4, 0xFF)),
        new Change("arm", chip -> chip.arm(1, 17)),
        new Change("arm -1", chip -> chip.arm(0, -1)),
        new Change("clear", chip -> chip.clear()),
        new Change("fail", chip -> chip.fail(6, 7, 1)),
        new Change("heal", chip -> chip.heal(3, 3)),
        new Change("set 0", chip -> chip.set(0, 7)),
        new Change("set 1", chip -> chip.set(1, 1)),
        new Change("set 2", chip -> chip.set(2, 4)),
        new Change("play", chip -> chip.play())};

    /** Changes though everything stays as it was. */
    private static final Change[] CHANGES_OF_NOTHING = {
        new Change("write", chip -> chip.write(3, 6)),
        new Change("alarm", chip -> chip.alarm(0, 0, 0)),
        new Change("arm", chip -> chip.arm(2, -1)),
        new Change("clear", chip -> chip.clear()),
        new Change("set 0", chip -> chip.set(0, 2)),
        new Change("set 1", chip -> chip.set(1, 0)),
        new Change("set 2", chip -> chip.set(2, 16)),
        new Change("play", chip -> chip.play())};

    private static final Change[] NO_CHANGES = {
        new Change("registerOf", chip -> chip.registerOf(0, 6)),
        new Change("alarmOf", chip -> chip.alarmOf(0, 9)),
        new Change("date", chip -> chip.date(0)),
        new Change("log", chip -> chip.log(0, 0)),
        new Change("readable", chip -> chip.readable()),
        new Change("safeIn", chip -> chip.safeIn()),
        new Change("ifBurst 0", chip -> chip.ifBurst(0, 8)),
        new Change("ifBurst 1", chip -> chip.ifBurst(1, 8)),
        new Change("ifBurst 2", chip -> chip.ifBurst(2, 8)),
        new Change("comesIn", chip -> chip.comesIn(0)),
        new Change("share", chip -> chip.share()),
        new Change("count", chip -> chip.count(10)),
        new Change("type", chip -> chip.type('r')),
        new Change("clearText", chip -> chip.clearText()),
        new Change("fault", chip -> chip.fault(0))};

    private static final Refused[] REFUSED = {
        new Refused("write(-1, 0)", Checks.INVALID, chip -> chip.write(-1, 0)),
        new Refused("write(7, 0)", Checks.INVALID, chip -> chip.write(7, 0)),
        new Refused("write(0, -1)", Checks.INVALID, chip -> chip.write(0, -1)),
        new Refused("write(0, 256)", Checks.INVALID, chip -> chip.write(0, 256)),
        new Refused("read(-1)", Checks.INVALID, chip -> chip.read(-1)),
        new Refused("read(7)", Checks.INVALID, chip -> chip.read(7)),
        new Refused("burst(-1)", Checks.INVALID, chip -> chip.burst(-1)),
        new Refused("burst(3)", Checks.INVALID, chip -> chip.burst(3)),
        new Refused("pass(0)", Checks.INVALID, chip -> chip.pass(0)),
        new Refused("pass(-1)", Checks.INVALID, chip -> chip.pass(-1)),
        new Refused("pass(10000)", Checks.INVALID, chip -> chip.pass(10000)),
        new Refused("alarm(-1, 0, 9)", Checks.INVALID, chip -> chip.alarm(-1, 0, 9)),
        new Refused("alarm(3, 0, 9)", Checks.INVALID, chip -> chip.alarm(3, 0, 9)),
        new Refused("alarm(0, -1, 9)", Checks.INVALID, chip -> chip.alarm(0, -1, 9)),
        new Refused("alarm(0, 5, 9)", Checks.INVALID, chip -> chip.alarm(0, 5, 9)),
        new Refused("alarm(0, 0, -1)", Checks.INVALID, chip -> chip.alarm(0, 0, -1)),
        new Refused("alarm(0, 0, 256)", Checks.INVALID, chip -> chip.alarm(0, 0, 256)),
        new Refused("arm(-1, 0)", Checks.INVALID, chip -> chip.arm(-1, 0)),
        new Refused("arm(3, -1)", Checks.INVALID, chip -> chip.arm(3, -1)),
        new Refused("arm(1, -2)", Checks.INVALID, chip -> chip.arm(1, -2)),
        new Refused("arm(1, 32)", Checks.INVALID, chip -> chip.arm(1, 32)),
        new Refused("fail(-1, 0, 0)", Checks.INVALID, chip -> chip.fail(-1, 0, 0)),
        new Refused("fail(7, 0, 0)", Checks.INVALID, chip -> chip.fail(7, 0, 0)),
        new Refused("fail(0, -1, 1)", Checks.INVALID, chip -> chip.fail(0, -1, 1)),
        new Refused("fail(0, 8, 1)", Checks.INVALID, chip -> chip.fail(0, 8, 1)),
        new Refused("fail(0, 5, -1)", Checks.INVALID, chip -> chip.fail(0, 5, -1)),
        new Refused("fail(0, 5, 2)", Checks.INVALID, chip -> chip.fail(0, 5, 2)),
        new Refused("fail(3, 3, 0)", Checks.IMPOSSIBLE, chip -> chip.fail(3, 3, 0)),
        new Refused("fail(3, 3, 1)", Checks.IMPOSSIBLE, chip -> chip.fail(3, 3, 1)),
        new Refused("heal(-1, 0)", Checks.INVALID, chip -> chip.heal(-1, 0)),
        new Refused("heal(7, 0)", Checks.INVALID, chip -> chip.heal(7, 0)),
        new Refused("heal(3, -1)", Checks.INVALID, chip -> chip.heal(3, -1)),
        new Refused("heal(3, 8)", Checks.INVALID, chip -> chip.heal(3, 8)),
        new Refused("heal(3, 2)", Checks.IMPOSSIBLE, chip -> chip.heal(3, 2)),
        new Refused("set(-1, 5)", Checks.INVALID, chip -> chip.set(-1, 5)),
        new Refused("set(3, 5)", Checks.INVALID, chip -> chip.set(3, 5)),
        new Refused("set(0, -1)", Checks.INVALID, chip -> chip.set(0, -1)),
        new Refused("set(0, 9)", Checks.INVALID, chip -> chip.set(0, 9)),
        new Refused("set(1, -1)", Checks.INVALID, chip -> chip.set(1, -1)),
        new Refused("set(1, 2)", Checks.INVALID, chip -> chip.set(1, 2)),
        new Refused("set(2, 3)", Checks.INVALID, chip -> chip.set(2, 3)),
        new Refused("set(2, 61)", Checks.INVALID, chip -> chip.set(2, 61)),
        new Refused("registerOf(7, 0)", Checks.INVALID, chip -> chip.registerOf(7, 0)),
        new Refused("registerOf(0, 7)", Checks.INVALID, chip -> chip.registerOf(0, 7)),
        new Refused("alarmOf(3, 0)", Checks.INVALID, chip -> chip.alarmOf(3, 0)),
        new Refused("alarmOf(0, 10)", Checks.INVALID, chip -> chip.alarmOf(0, 10)),
        new Refused("date(5)", Checks.INVALID, chip -> chip.date(5)),
        new Refused("date(0)", Checks.NONE, chip -> chip.date(0)),
        new Refused("log(-1, 0)", Checks.INVALID, chip -> chip.log(-1, 0)),
        new Refused("log(0, 10)", Checks.INVALID, chip -> chip.log(0, 10)),
        new Refused("log(2, 0)", Checks.NONE, chip -> chip.log(2, 0)),
        new Refused("safeIn()", Checks.NONE, chip -> chip.safeIn()),
        new Refused("ifBurst(3, 0)", Checks.INVALID, chip -> chip.ifBurst(3, 0)),
        new Refused("ifBurst(2, 10)", Checks.INVALID, chip -> chip.ifBurst(2, 10)),
        new Refused("comesIn(3)", Checks.INVALID, chip -> chip.comesIn(3)),
        new Refused("comesIn(1)", Checks.IMPOSSIBLE, chip -> chip.comesIn(1)),
        new Refused("comesIn(2)", Checks.NONE, chip -> chip.comesIn(2)),
        new Refused("count(14)", Checks.INVALID, chip -> chip.count(14)),
        new Refused("type(31)", Checks.INVALID, chip -> chip.type(31)),
        new Refused("type(127)", Checks.INVALID, chip -> chip.type(127)),
        new Refused("fault(3)", Checks.INVALID, chip -> chip.fault(3)),
        new Refused("fault(0)", Checks.NONE, chip -> chip.fault(0))};

    public static void main(String[] args) {
        rangesAndFirstValues();
        phaseNotBelow();
        eachChange();
        changesOfNothing();
        noChanges();
        orNotIfTheyReturnAnError();
        atMost4States();
        oldestIsDropped();
        everythingButTheText();
        entriesOfTheLogComeBack();
        playRecordsOnce();
        invalidRatherThanImpossible();
        invalidRatherThanLimit();
        impossibleRatherThanNone();
        invalidRatherThanNone();
        errorsChangeNothing();
        errorsOfEmptyAndFullChangeNothing();
        errorsOfFaultsChangeNothing();
        constants();
        manyCalls();
        Checks.end("EdgesChangesTest");
    }

    private static void rangesAndFirstValues() {
        Checks.sentence(SETTINGS, "The settings are (in parentheses: range; first value): 0 phases of a read (0 to 8; 2), 1 the order of a"
            + " burst (0 or 1; 0), 2 phases of a second (4 to 60; 16).");
        int[][] settings = {{0, 8, 2}, {0, 1, 0}, {4, 60, 16}};
        for (int what = 0; what < 3; what++) {
            Chip chip = new Chip();
            int previous = settings[what][2];
            Checks.due("first value of " + what, previous, chip.count(20 + what));
            for (int value = -3; value <= 64; value++) {
                boolean isIn = value >= settings[what][0] && value <= settings[what][1];
                Checks.due("set(" + what + ", " + value + ")", isIn ? previous : Checks.INVALID, chip.set(what, value));
                previous = isIn ? value : previous;
                Checks.due("setting " + what, previous, chip.count(20 + what));
            }
            int[] none = {Integer.MIN_VALUE, Integer.MAX_VALUE, 256, 260, -252};
            for (int value : none) {
                Checks.due("set(" + what + ", " + value + ")", Checks.INVALID, chip.set(what, value));
            }
        }
        int[] noSettings = {-1, 3, 20, Integer.MIN_VALUE, Integer.MAX_VALUE};
        for (int what : noSettings) {
            for (int value = 0; value <= 4; value++) {
                Checks.due("set(" + what + ", " + value + ")", Checks.INVALID, new Chip().set(what, value));
            }
        }
    }

    private static void phaseNotBelow() {
        Checks.sentence(SETTINGS, "If the phase of now is not below setting 2 any more, it becomes setting 2 less 1.");
        for (int phase = 0; phase < 60; phase++) {
            for (int second = 4; second <= 60; second += second < 58 ? 3 : 1) {
                Chip chip = new Chip();
                chip.set(2, 60);
                if (phase > 0) {
                    chip.pass(phase);
                }
                Checks.due("set(2, " + second + ")", 60, chip.set(2, second));
                int want = phase < second ? phase : second - 1;
                Checks.due("phase " + phase + " in " + second, want, chip.count(0));
                Checks.due("no tick", 0, chip.count(1));
                Checks.due("no phase", phase, chip.count(10));
                Checks.due("no tick", 0, second - 1 - want > 0 ? chip.pass(second - 1 - want) : 0);
                Checks.due("a tick", 1, chip.pass(1));
            }
        }
        Chip others = new Chip();
        others.pass(15);
        others.set(0, 8);
        others.set(1, 1);
        Checks.due("the other settings leave the phase", 15, others.count(0));
        others.set(2, 15);
        Checks.due("phase", 14, others.count(0));
        others.undo();
        Checks.due("phase", 15, others.count(0));
    }

    /** Something of everything that is there; 4 states, a text without a fault, two entries of the log, one torn. */
    private static Chip richChip() {
        Chip chip = Checks.showing(0x59, 0x59, 0x23, 7, 0x32, 0x02, 0x9A);
        chip.alarm(0, 0, 0x03);
        chip.alarm(2, 4, 0xEE);
        chip.arm(0, 30);
        chip.arm(2, 0);
        chip.fail(3, 3, 1);
        chip.fail(0, 7, 0);
        chip.set(0, 3);
        chip.pass(15);
        chip.burst(0);
        chip.burst(2);
        chip.read(5);
        chip.pass(999);
        Checks.type(chip, "w0,3;b0;r1;p200;a0,0,7;m1,2;");
        return chip;
    }

    private static String stateBehind(Consumer<Chip> calls) {
        Chip chip = richChip();
        calls.accept(chip);
        return Checks.stateOf(chip) + " text " + chip.count(13);
    }

    private static void undoAll(Chip chip, int undos) {
        for (int i = 0; i < undos; i++) {
            chip.undo();
        }
    }

    private static void eachChange() {
        Checks.sentence(IN, "The changes are the calls of write, read, burst, pass, alarm, arm, clear, fail, heal, set and play that return"
            + " no error.");
        String before = stateBehind(chip -> { });
        for (Change change : CHANGES) {
            Chip chip = richChip();
            chip.undo();
            Checks.due("states", 3, chip.count(12));
            change.call().accept(chip);
            Checks.due("states behind " + change.name(), 4, chip.count(12));
            String behind = stateBehind(change.call());
            Checks.due(change.name() + " does something", 0, before.equals(behind) ? 1 : 0);
            Checks.same("undone " + change.name(), before, stateBehind(one -> {
                change.call().accept(one);
                Checks.due("undo of " + change.name(), 3, one.undo());
            }));
        }
    }

    private static void changesOfNothing() {
        Checks.sentence(IN, "The changes are the calls of write, read, burst, pass, alarm, arm, clear, fail, heal, set and play");
        for (Change change : CHANGES_OF_NOTHING) {
            Chip chip = new Chip();
            change.call().accept(chip);
            Checks.due("states behind " + change.name() + " of nothing", 1, chip.count(12));
            Checks.due("undo of " + change.name(), 0, chip.undo());
            Checks.due("undo of " + change.name(), Checks.IMPOSSIBLE, chip.undo());
        }
        Chip chip = new Chip();
        chip.set(0, 0);
        chip.read(0);
        chip.fail(0, 0, 0);
        chip.heal(0, 0);
        Checks.due("a read in no time, a cell of 0 that fails to be 0 and is healed", 4, chip.count(12));
    }

    private static void noChanges() {
        Checks.sentence(IN, "The changes are the calls of");
        for (Change call : NO_CHANGES) {
            Chip chip = new Chip();
            chip.arm(0, 30);
            chip.burst(0);
            call.call().accept(chip);
            Checks.due("states behind " + call.name(), 2, chip.count(12));
            Checks.due("undo()", 1, chip.undo());
            Checks.due("no burst", 0, chip.count(6));
            Checks.due("undo()", 0, chip.undo());
            Checks.due("states behind undo()", 0, chip.count(12));
            Checks.due("not armed", 0, chip.alarmOf(0, 6));
        }
    }

    private static void orNotIfTheyReturnAnError() {
        Checks.sentence(IN, "that return no error.");
        for (Refused refused : REFUSED) {
            Chip chip = richChip();
            undoAll(chip, 2);
            refused.call().applyAsInt(chip);
            Checks.due("states behind " + refused.name(), 2, chip.count(12));
        }
    }

    private static Chip afterChanges(int changes) {
        Chip chip = new Chip();
        for (int i = 0; i < changes; i++) {
            CHANGES[i % 11].call().accept(chip);
        }
        return chip;
    }

    private static void atMost4States() {
        Checks.sentence(IN, "A history of at most 4 states is kept");
        for (int changes = 0; changes <= 11; changes++) {
            Chip chip = afterChanges(changes);
            Checks.due("states behind " + changes, Math.min(changes, 4), chip.count(12));
            for (int left = Math.min(changes, 4) - 1; left >= 0; left--) {
                Checks.due("undo()", left, chip.undo());
                Checks.due("states", left, chip.count(12));
            }
            Checks.due("no more", Checks.IMPOSSIBLE, chip.undo());
            Checks.due("no more", Checks.IMPOSSIBLE, chip.undo());
            Checks.due("states", 0, chip.count(12));
        }
    }

    private static void oldestIsDropped() {
        Checks.sentence(IN, "and if there are 5 states then, the oldest one is dropped.");
        for (int changes = 1; changes <= 11; changes++) {
            int least = Math.max(changes - 4, 0);
            for (int behind = least; behind <= changes; behind++) {
                Chip chip = afterChanges(changes);
                undoAll(chip, changes - behind);
                String want = Checks.stateOf(afterChanges(behind));
                Checks.same("undone from " + changes + " to " + behind, want, Checks.stateOf(chip));
            }
        }
        Chip chip = afterChanges(6);
        undoAll(chip, 3);
        chip.write(6, 0x77);
        chip.write(6, 0x78);
        Checks.due("one state left, and two more", 3, chip.count(12));
        undoAll(chip, 2);
        Checks.same("between the third and the fourth change", Checks.stateOf(afterChanges(3)), Checks.stateOf(chip));
        undoAll(chip, 1);
        Checks.same("behind the second change", Checks.stateOf(afterChanges(2)), Checks.stateOf(chip));
        Checks.due("none is left", Checks.IMPOSSIBLE, chip.undo());
    }

    private static void everythingButTheText() {
        Checks.sentence(IN, "each change records everything before it but the text");
        for (Change change : CHANGES) {
            Chip chip = richChip();
            change.call().accept(chip);
            chip.clearText();
            Checks.type(chip, "r9;");
            chip.undo();
            Checks.due("length of the text behind undo()", 3, chip.count(13));
            Checks.due("its fault", 2, chip.fault(1));
            Checks.same("the rest", Checks.stateOf(richChip()), Checks.stateOf(chip));
        }
        Chip chip = new Chip();
        Checks.type(chip, "p1;");
        chip.play();
        chip.type('x');
        chip.undo();
        Checks.due("length", 4, chip.count(13));
        Checks.due("fault", 3, chip.fault(0));
        Checks.due("clearText() is not undone", 4, chip.clearText());
        chip.write(0, 1);
        chip.undo();
        Checks.due("length", 0, chip.count(13));
    }

    private static Chip afterBursts(int bursts) {
        Chip chip = new Chip();
        for (int i = 1; i <= bursts; i++) {
            chip.write(6, i);
            chip.burst(i % 3);
        }
        return chip;
    }

    /** Also those of a full log that the bursts behind them drove out. */
    private static void entriesOfTheLogComeBack() {
        Checks.sentence(IN, "each change records everything before it");
        for (int bursts = 0; bursts <= 13; bursts++) {
            for (int more = 1; more <= 4; more++) {
                Chip chip = afterBursts(bursts);
                for (int i = 0; i < more; i++) {
                    chip.burst(1);
                }
                undoAll(chip, more);
                Checks.same(bursts + " bursts, " + more + " undone", Checks.stateOf(afterBursts(bursts)), Checks.stateOf(chip));
            }
            Chip played = afterBursts(bursts);
            Checks.type(played, "b0;b0;b0;b0;b0;b0;b0;b0;");
            played.play();
            played.undo();
            Checks.same(bursts + " bursts, 8 orders undone", Checks.stateOf(afterBursts(bursts)), Checks.stateOf(played));
        }
    }

    private static void playRecordsOnce() {
        Checks.sentence(IN, "each change records everything before it");
        Chip chip = new Chip();
        chip.pass(5);
        Checks.type(chip, "w0,1;w0,2;w0,3;w0,4;w0,5;w0,6;p99;b2;m1,31;");
        Checks.due("play", 9, chip.play());
        Checks.due("one state more", 2, chip.count(12));
        Checks.due("undo()", 1, chip.undo());
        Checks.due("seconds", 0, chip.registerOf(0, 0));
        Checks.due("phase", 5, chip.count(0));
        Checks.due("writings", 0, chip.count(9));
        Checks.due("bursts", 0, chip.count(6));
    }

    private static void invalidRatherThanImpossible() {
        Checks.sentence(IN, "If several errors apply to a call, INVALID_ARGUMENT is returned rather than NOT_POSSIBLE");
        Chip chip = new Chip();
        chip.fail(0, 0, 1);
        Checks.due("a failed cell, and the value 2", Checks.INVALID, chip.fail(0, 0, 2));
        Checks.due("a failed cell, and the value -1", Checks.INVALID, chip.fail(0, 0, -1));
        Checks.due("no such cell, which has not failed", Checks.INVALID, chip.heal(0, 8));
        Checks.due("no such register", Checks.INVALID, chip.heal(7, 0));
        Checks.due("no such alarm, which is not armed", Checks.INVALID, chip.comesIn(3));
        Checks.due("no such alarm, which is not armed", Checks.INVALID, chip.comesIn(-1));
    }

    private static void invalidRatherThanLimit() {
        Checks.sentence(IN, "INVALID_ARGUMENT is returned rather than NOT_POSSIBLE, NOT_POSSIBLE rather than LIMIT_REACHED");
        Chip chip = new Chip();
        for (int i = 0; i < 60; i++) {
            chip.type('r');
        }
        Checks.due("the text is full, and 31 no character of it", Checks.INVALID, chip.type(31));
        Checks.due("the text is full, and 127 no character of it", Checks.INVALID, chip.type(127));
        Checks.due("the text is full", Checks.LIMIT, chip.type(126));
    }

    private static void impossibleRatherThanNone() {
        Checks.sentence(IN, "NOT_POSSIBLE rather than LIMIT_REACHED, and LIMIT_REACHED rather than NOT_FOUND.");
        Chip chip = new Chip();
        chip.alarm(0, 0, 0xEE);
        Checks.due("not armed, and it would not come", Checks.IMPOSSIBLE, chip.comesIn(0));
        chip.arm(0, 0);
        Checks.due("armed", Checks.NONE, chip.comesIn(0));
        chip.arm(0, -1);
        Checks.due("not armed any more", Checks.IMPOSSIBLE, chip.comesIn(0));
    }

    private static void invalidRatherThanNone() {
        Checks.sentence(IN, "If several errors apply to a call, INVALID_ARGUMENT is returned");
        Chip chip = new Chip();
        Checks.due("no burst, and no such number", Checks.INVALID, chip.log(0, 10));
        Checks.due("no burst, and no such number", Checks.INVALID, chip.log(0, -1));
        Checks.due("no burst", Checks.INVALID, chip.log(-1, 0));
        Checks.due("no fault, and no such number", Checks.INVALID, chip.fault(3));
        Checks.due("no fault, and no such number", Checks.INVALID, chip.fault(-1));
        chip.write(4, 0);
        Checks.due("the day is not right, and no such number", Checks.INVALID, chip.date(5));
        Checks.due("the day is not right, and no such number", Checks.INVALID, chip.date(-1));
    }

    /** Each state of the history is compared too, each on chips of its own. */
    private static void errorsChangeNothing() {
        Checks.sentence(IN, "A call that returns an error changes nothing.");
        for (int undos = 0; undos <= 4; undos++) {
            int back = undos;
            String want = stateBehind(chip -> undoAll(chip, back));
            for (Refused refused : REFUSED) {
                Chip chip = richChip();
                Checks.due(refused.name(), refused.error(), refused.call().applyAsInt(chip));
                Checks.due("states behind " + refused.name(), 4, chip.count(12));
                undoAll(chip, undos);
                Checks.same("state " + undos + " ahead of " + refused.name(), want,
                    Checks.stateOf(chip) + " text " + chip.count(13));
                Checks.due("the orders of the text behind " + refused.name(), 6, chip.play());
            }
        }
    }

    private static void errorsOfEmptyAndFullChangeNothing() {
        Checks.sentence(IN, "A call that returns an error changes nothing.");
        Chip empty = new Chip();
        Checks.due("undo()", Checks.IMPOSSIBLE, empty.undo());
        Checks.due("share()", Checks.NONE, empty.share());
        Checks.same("a new chip behind them", Checks.stateOf(new Chip()), Checks.stateOf(empty));
        Checks.due("states", 0, empty.count(12));
        Checks.due("text", 0, empty.count(13));
        Chip full = new Chip();
        for (int i = 0; i < 20; i++) {
            Checks.type(full, "r0;");
        }
        Checks.due("type", Checks.LIMIT, full.type('x'));
        Checks.due("length", 60, full.count(13));
        Checks.due("no fault", Checks.NONE, full.fault(0));
        Checks.due("play", 20, full.play());
    }

    private static void errorsOfFaultsChangeNothing() {
        Checks.sentence(IN, "A call that returns an error changes nothing.");
        String[] faults = {"w0,1;p99;b2;x", "w0,1;p99;b2;r7;", "w0,1;p99;b2;r6"};
        for (String orders : faults) {
            Chip chip = new Chip();
            chip.pass(7);
            Checks.type(chip, orders);
            Checks.due("play", Checks.IMPOSSIBLE, chip.play());
            Checks.due("states", 1, chip.count(12));
            Checks.due("length", orders.length(), chip.count(13));
            Checks.due("fault", 12, chip.fault(0));
            Chip other = new Chip();
            other.pass(7);
            Checks.same("state behind " + orders, Checks.stateOf(other), Checks.stateOf(chip));
            Checks.due("undo()", 0, chip.undo());
            Checks.due("phase", 0, chip.count(0));
        }
    }

    private static void constants() {
        Checks.sentence(IN, "`INVALID_ARGUMENT = -1000001`: An argument is out of its range.");
        Checks.due("INVALID_ARGUMENT", -1000001, RollingDigits.INVALID_ARGUMENT);
        Checks.due("read(7)", RollingDigits.INVALID_ARGUMENT, new RollingDigits().read(7));
        Checks.sentence(IN, "`NOT_POSSIBLE = -1000002`: The call is not possible in the present state.");
        Checks.due("NOT_POSSIBLE", -1000002, RollingDigits.NOT_POSSIBLE);
        Checks.due("undo()", RollingDigits.NOT_POSSIBLE, new RollingDigits().undo());
        Checks.sentence(IN, "`LIMIT_REACHED = -1000003`: A fixed limit has been reached.");
        Checks.due("LIMIT_REACHED", -1000003, RollingDigits.LIMIT_REACHED);
        Chip full = new Chip();
        Checks.type(full, "123456789012345678901234567890123456789012345678901234567890");
        Checks.due("type", RollingDigits.LIMIT_REACHED, full.type('1'));
        Checks.sentence(IN, "`NOT_FOUND = -1000004`: There is no such value.");
        Checks.due("NOT_FOUND", -1000004, RollingDigits.NOT_FOUND);
        Checks.due("share()", RollingDigits.NOT_FOUND, new RollingDigits().share());
    }

    private static void manyCalls() {
        Checks.sentence("What it is", "An object is used for at most 512 calls after it has been made");
        Chip chip = new Chip();
        chip.set(2, 4);
        for (int alarm = 0; alarm < 3; alarm++) {
            chip.arm(alarm, 31);
        }
        Checks.type(chip, "p999;p999;p999;p999;p999;p999;p999;p999;p999;p999;p999;p999;");
        int plays = 0;
        while (chip.callsLeft() > 12) {
            Checks.due("play", 12, chip.play());
            plays++;
        }
        int phases = plays * 12 * 999;
        int ticks = phases / 4;
        Checks.due("phases", phases, chip.count(10));
        Checks.due("ticks", ticks, chip.count(1));
        Checks.due("phase", phases % 4, chip.count(0));
        Checks.due("came", 3 * ticks, chip.count(4));
        Checks.due("came", ticks, chip.alarmOf(2, 8));
        Checks.due("minutes", ticks / 60, chip.registerOf(0, 5));
        Checks.due("hours", ticks / 3600, chip.registerOf(1, 5));
        Checks.due("days", ticks / 86400, chip.registerOf(2, 5));
        Checks.due("day", ticks / 86400, chip.date(0));
        Checks.due("states", 4, chip.count(12));
        Checks.due("seconds", ticks % 60, chip.registerOf(0, 1));
        Checks.due("the 512th call", 3, chip.undo());
        Checks.due("calls left", 0, chip.callsLeft());
    }
}
