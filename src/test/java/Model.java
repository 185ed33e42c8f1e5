import java.time.LocalDate;
import java.time.temporal.ChronoUnit;
import java.util.ArrayList;
import java.util.Arrays;
import java.util.List;
import java.util.regex.Matcher;
import java.util.regex.Pattern;

/** The document once more, written in another way and with the Java library; ModelTest compares both. */
final class Model {
    private static final int BAD = -1000001;
    private static final int NOT_POSSIBLE = -1000002;
    private static final int LIMIT = -1000003;
    private static final int NONE = -1000004;

    /** What a state of the history records. */
    private static final class State {
        int[][] digits = {{0, 0}, {0, 0}, {0, 0}, {0, 6}, {0, 1}, {0, 1}, {0, 0}};
        char[][] cells = new char[7][8];
        int[] rolls = new int[7];
        int[][] alarms = new int[3][5];
        int[] masks = new int[3];
        boolean[] armed = new boolean[3];
        boolean[] flags = new boolean[3];
        int[] came = new int[3];
        int[] settings = {2, 0, 16};
        int phase;
        int ticks;
        int phases;
        int reads;
        int writings;
        List<Boolean> torn = new ArrayList<>();
        List<int[]> log = new ArrayList<>();

        State() {
            for (char[] row : cells) {
                Arrays.fill(row, '-');
            }
        }

        State copy() {
            State copy = new State();
            for (int i = 0; i < 7; i++) {
                copy.digits[i] = digits[i].clone();
                copy.cells[i] = cells[i].clone();
            }
            for (int i = 0; i < 3; i++) {
                copy.alarms[i] = alarms[i].clone();
            }
            copy.rolls = rolls.clone();
            copy.masks = masks.clone();
            copy.armed = armed.clone();
            copy.flags = flags.clone();
            copy.came = came.clone();
            copy.settings = settings.clone();
            copy.phase = phase;
            copy.ticks = ticks;
            copy.phases = phases;
            copy.reads = reads;
            copy.writings = writings;
            copy.torn = new ArrayList<>(torn);
            copy.log = new ArrayList<>(log);
            return copy;
        }

        int value(int r) {
            return 16 * digits[r][0] + digits[r][1];
        }

        int number(int r) {
            return 10 * digits[r][0] + digits[r][1];
        }

        void put(int r, int value) {
            StringBuilder bits = new StringBuilder();
            for (int bit = 7; bit >= 0; bit--) {
                bits.append(cells[r][bit] == '-' ? (char) ('0' + (value >> bit) % 2) : cells[r][bit]);
            }
            int seen = Integer.parseInt(bits.toString(), 2);
            digits[r] = new int[] {seen / 16, seen % 16};
        }

        int first(int r) {
            return r == 3 || r == 4 || r == 5 ? 1 : 0;
        }

        int last(int r) {
            if (r == 4) {
                if (why(5) != 0) {
                    return 31;
                }
                int month = number(5);
                if (month == 2) {
                    return why(6) == 0 && number(6) % 4 == 0 ? 29 : 28;
                }
                return List.of(4, 6, 9, 11).contains(month) ? 30 : 31;
            }
            return new int[] {59, 59, 23, 7, 0, 12, 99}[r];
        }

        int why(int r) {
            if (digits[r][0] > 9 || digits[r][1] > 9) {
                return 1;
            }
            return number(r) < first(r) ? 2 : number(r) > last(r) ? 3 : 0;
        }

        boolean step(int r) {
            if (why(r) == 0 && number(r) == last(r)) {
                put(r, first(r));
                rolls[r]++;
                return true;
            }
            int upper = digits[r][0];
            int lower = digits[r][1];
            if (lower >= 9) {
                lower = 0;
                upper = upper == 15 ? 0 : upper + 1;
            } else {
                lower++;
            }
            put(r, 16 * upper + lower);
            return false;
        }

        boolean matches(int alarm) {
            boolean matches = true;
            for (int r = 0; r < 5; r++) {
                boolean masked = (masks[alarm] >> r) % 2 == 1;
                matches &= masked || value(r) == alarms[alarm][r];
            }
            return matches;
        }

        boolean phase() {
            phases++;
            phase++;
            if (phase != settings[2]) {
                return false;
            }
            phase = 0;
            ticks++;
            boolean carry = step(0);
            carry = carry && step(1);
            carry = carry && step(2);
            if (carry) {
                step(3);
                carry = step(4);
                carry = carry && step(5);
                carry = carry && step(6);
            }
            for (int alarm = 0; alarm < 3; alarm++) {
                if (armed[alarm] && matches(alarm)) {
                    flags[alarm] = true;
                    came[alarm]++;
                }
            }
            return true;
        }

        int[] all() {
            int[] all = new int[7];
            for (int r = 0; r < 7; r++) {
                all[r] = value(r);
            }
            return all;
        }

        /** Tells, with 1 behind it if it is torn. */
        int[] inTurn() {
            List<int[]> shown = new ArrayList<>();
            shown.add(all());
            int[] told = new int[7];
            int lastKept = 0;
            for (int i = 0; i < 7; i++) {
                int r = settings[1] == 0 ? i : 6 - i;
                told[r] = value(r);
                lastKept = shown.size();
                for (int p = 0; p < settings[0]; p++) {
                    if (phase()) {
                        shown.add(all());
                    }
                }
            }
            boolean found = false;
            for (int[] one : shown.subList(0, lastKept)) {
                found |= Arrays.equals(one, told);
            }
            int[] result = Arrays.copyOf(told, 8);
            result[7] = found ? 0 : 1;
            return result;
        }

        int[] burst(int mode) {
            int[] told;
            int made = 1;
            if (mode == 1) {
                told = Arrays.copyOf(all(), 8);
                for (int p = 0; p < 7 * settings[0]; p++) {
                    phase();
                }
            } else {
                told = inTurn();
            }
            if (mode == 2) {
                int[] before;
                do {
                    before = told;
                    told = inTurn();
                    made++;
                } while (made < 5 && !Arrays.equals(Arrays.copyOf(before, 7), Arrays.copyOf(told, 7)));
            }
            int[] entry = Arrays.copyOf(told, 10);
            entry[7] = mode;
            entry[8] = told[7];
            entry[9] = made;
            torn.add(told[7] == 1);
            log.add(0, entry);
            if (log.size() > 6) {
                log.remove(6);
            }
            return entry;
        }

        int failedCells() {
            int failed = 0;
            for (char[] row : cells) {
                failed += new String(row).replace("-", "").length();
            }
            return failed;
        }

        int tornOnes() {
            int ones = 0;
            for (boolean one : torn) {
                ones += one ? 1 : 0;
            }
            return ones;
        }
    }

    private State s = new State();
    private final List<State> history = new ArrayList<>();
    private String text = "";

    private static boolean in(int number, int least, int most) {
        return least <= number && number <= most;
    }

    private static int set(boolean[] ones) {
        int set = 0;
        for (int i = 0; i < ones.length; i++) {
            set += ones[i] ? 1 << i : 0;
        }
        return set;
    }

    private void change() {
        history.add(s);
        s = s.copy();
        if (history.size() == 5) {
            history.remove(0);
        }
    }

    int write(int r, int value) {
        if (!in(r, 0, 6) || !in(value, 0, 255)) {
            return BAD;
        }
        change();
        s.writings++;
        s.put(r, value);
        return s.value(r);
    }

    int read(int r) {
        if (!in(r, 0, 6)) {
            return BAD;
        }
        change();
        s.reads++;
        int seen = s.value(r);
        for (int p = 0; p < s.settings[0]; p++) {
            s.phase();
        }
        return seen;
    }

    int burst(int mode) {
        if (!in(mode, 0, 2)) {
            return BAD;
        }
        change();
        return s.burst(mode)[8];
    }

    int pass(int phases) {
        if (!in(phases, 1, 9999)) {
            return BAD;
        }
        change();
        int ticks = s.ticks;
        for (int p = 0; p < phases; p++) {
            s.phase();
        }
        return s.ticks - ticks;
    }

    int alarm(int alarm, int r, int value) {
        if (!in(alarm, 0, 2) || !in(r, 0, 4) || !in(value, 0, 255)) {
            return BAD;
        }
        change();
        int was = s.alarms[alarm][r];
        s.alarms[alarm][r] = value;
        return was;
    }

    int arm(int alarm, int mask) {
        if (!in(alarm, 0, 2) || !in(mask, -1, 31)) {
            return BAD;
        }
        change();
        int was = s.armed[alarm] ? 1 : 0;
        s.armed[alarm] = mask >= 0;
        s.masks[alarm] = mask >= 0 ? mask : s.masks[alarm];
        return was;
    }

    int clear() {
        change();
        int were = set(s.flags);
        s.flags = new boolean[3];
        return were;
    }

    int fail(int r, int bit, int value) {
        if (!in(r, 0, 6) || !in(bit, 0, 7) || !in(value, 0, 1)) {
            return BAD;
        }
        if (s.cells[r][bit] != '-') {
            return NOT_POSSIBLE;
        }
        change();
        s.cells[r][bit] = (char) ('0' + value);
        s.put(r, s.value(r));
        return s.value(r);
    }

    int heal(int r, int bit) {
        if (!in(r, 0, 6) || !in(bit, 0, 7)) {
            return BAD;
        }
        if (s.cells[r][bit] == '-') {
            return NOT_POSSIBLE;
        }
        change();
        s.cells[r][bit] = '-';
        return s.failedCells();
    }

    int set(int what, int value) {
        int[] least = {0, 0, 4};
        int[] most = {8, 1, 60};
        if (!in(what, 0, 2) || !in(value, least[what], most[what])) {
            return BAD;
        }
        change();
        int was = s.settings[what];
        s.settings[what] = value;
        s.phase = Math.min(s.phase, s.settings[2] - 1);
        return was;
    }

    int registerOf(int r, int what) {
        if (!in(r, 0, 6) || !in(what, 0, 6)) {
            return BAD;
        }
        boolean[] failed = new boolean[8];
        for (int bit = 0; bit < 8; bit++) {
            failed[bit] = s.cells[r][bit] != '-';
        }
        State later = s.copy();
        later.step(r);
        return new int[] {s.value(r), s.number(r), s.why(r), s.last(r), set(failed), s.rolls[r], later.value(r)}[what];
    }

    int alarmOf(int alarm, int what) {
        if (!in(alarm, 0, 2) || !in(what, 0, 9)) {
            return BAD;
        }
        if (what < 5) {
            return s.alarms[alarm][what];
        }
        return new int[] {s.masks[alarm], s.armed[alarm] ? 1 : 0, s.flags[alarm] ? 1 : 0, s.came[alarm],
            s.matches(alarm) ? 1 : 0}[what - 5];
    }

    int date(int what) {
        if (!in(what, 0, 4)) {
            return BAD;
        }
        if (what == 3) {
            return s.last(4);
        }
        if (s.why(4) + s.why(5) + s.why(6) > 0) {
            return NONE;
        }
        LocalDate date = LocalDate.of(2000 + s.number(6), s.number(5), s.number(4));
        int weekday = date.getDayOfWeek().getValue();
        switch (what) {
            case 0: return (int) ChronoUnit.DAYS.between(LocalDate.of(2000, 1, 1), date);
            case 1: return weekday;
            case 2: return s.number(3) == weekday ? 1 : 0;
            default: return date.lengthOfYear() - date.getDayOfYear();
        }
    }

    int log(int ago, int what) {
        if (ago < 0 || !in(what, 0, 9)) {
            return BAD;
        }
        return ago < s.log.size() ? s.log.get(ago)[what] : NONE;
    }

    int readable() {
        State later = s.copy();
        int ticks = later.ticks;
        int readable = 0;
        while (readable < 7 && later.ticks == ticks) {
            readable++;
            for (int p = 0; p < s.settings[0]; p++) {
                later.phase();
            }
        }
        return readable;
    }

    int safeIn() {
        State begin = s.copy();
        for (int in = 0; in < 200; in++) {
            State burst = begin.copy();
            for (int p = 0; p < 6 * s.settings[0]; p++) {
                burst.phase();
            }
            if (burst.ticks == begin.ticks) {
                return in;
            }
            begin.phase();
        }
        return NONE;
    }

    int ifBurst(int mode, int what) {
        return in(mode, 0, 2) && in(what, 0, 9) ? s.copy().burst(mode)[what] : BAD;
    }

    int comesIn(int alarm) {
        if (!in(alarm, 0, 2)) {
            return BAD;
        }
        if (!s.armed[alarm]) {
            return NOT_POSSIBLE;
        }
        State later = s.copy();
        while (later.ticks < s.ticks + 4000) {
            later.phase();
            if (later.came[alarm] > s.came[alarm]) {
                return later.ticks - s.ticks;
            }
        }
        return NONE;
    }

    int share() {
        if (s.torn.isEmpty()) {
            return NONE;
        }
        return Float.floatToRawIntBits((float) s.tornOnes() / (float) s.torn.size());
    }

    int count(int what) {
        boolean[] wrong = new boolean[7];
        for (int r = 0; r < 7; r++) {
            wrong[r] = s.why(r) != 0;
        }
        int[] counts = {s.phase, s.ticks, set(wrong), set(s.flags), s.came[0] + s.came[1] + s.came[2], s.failedCells(),
            s.torn.size(), s.tornOnes(), s.reads, s.writings, s.phases, s.log.size(), history.size(), text.length()};
        return in(what, 0, 13) ? counts[what] : in(what, 20, 22) ? s.settings[what - 20] : BAD;
    }

    int undo() {
        if (history.isEmpty()) {
            return NOT_POSSIBLE;
        }
        s = history.remove(history.size() - 1);
        return history.size();
    }

    int type(int character) {
        if (!in(character, 32, 126)) {
            return BAD;
        }
        if (text.length() == 60) {
            return LIMIT;
        }
        text += (char) character;
        return text.length();
    }

    int clearText() {
        int length = text.length();
        text = "";
        return length;
    }

    private static final Pattern ORDER = Pattern.compile("([rbp])(\\d{1,3});|([wm])(\\d{1,3}),(\\d{1,3});"
        + "|(a)(\\d{1,3}),(\\d{1,3}),(\\d{1,3});");
    /** The heads of orders, from the longest; the first that is found ends where an order breaks off. */
    private static final Pattern HEAD = Pattern.compile("[rbp]\\d{0,3}|[wm](\\d{1,3}(,\\d{0,3})?)?"
        + "|a(\\d{1,3}(,(\\d{1,3}(,\\d{0,3})?)?)?)?");

    private int doOrder(Matcher m) {
        String letter = m.group(1) != null ? m.group(1) : m.group(3) != null ? m.group(3) : m.group(6);
        List<Integer> n = new ArrayList<>();
        for (int group = 1; group <= 9; group++) {
            if (m.group(group) != null && !m.group(group).equals(letter)) {
                n.add(Integer.parseInt(m.group(group)));
            }
        }
        switch (letter) {
            case "r": return read(n.get(0));
            case "b": return burst(n.get(0));
            case "p": return pass(n.get(0));
            case "w": return write(n.get(0), n.get(1));
            case "m": return arm(n.get(0), n.get(1));
            default: return alarm(n.get(0), n.get(1), n.get(2));
        }
    }

    /** Does the orders on a model of its own; the fault, or how many orders there are. */
    private int[] tryText(Model trial) {
        int at = 0;
        int orders = 0;
        while (at < text.length()) {
            String rest = text.substring(at);
            Matcher order = ORDER.matcher(rest);
            if (!order.lookingAt()) {
                Matcher head = HEAD.matcher(rest);
                return new int[] {at, 1, head.lookingAt() ? head.end() : 0};
            }
            int answer = trial.doOrder(order);
            if (answer < 0) {
                return new int[] {at, 2, answer};
            }
            at += order.end();
            orders++;
        }
        return new int[] {orders};
    }

    int fault(int what) {
        if (!in(what, 0, 2)) {
            return BAD;
        }
        Model trial = new Model();
        trial.s = s.copy();
        int[] fault = tryText(trial);
        return fault.length == 3 ? fault[what] : NONE;
    }

    int play() {
        Model trial = new Model();
        trial.s = s.copy();
        int[] done = tryText(trial);
        if (done.length == 3) {
            return NOT_POSSIBLE;
        }
        change();
        s = trial.s;
        return done[0];
    }
}
