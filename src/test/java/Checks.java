import java.io.IOException;
import java.nio.file.Files;
import java.nio.file.Path;

/** What the tests share: they count wrong answers, and end with exit code 1 if there was one. */
final class Checks {
    static final int INVALID = -1000001;
    static final int IMPOSSIBLE = -1000002;
    static final int LIMIT = -1000003;
    static final int NONE = -1000004;

    /** The document may be away, as for one test that is run elsewhere; .ci/run does not pass without ../shared. */
    static final String DOCUMENT = "../shared/DOC.md";

    private static int asked = 0;
    private static int wrong = 0;
    private static String document = "";
    private static String sentence = "";
    private static int askedAheadOfSentence = -1;

    private Checks() {
    }

    static void due(String call, long want, long got) {
        asked++;
        if (want != got) {
            tellWrong(call + " answered " + got + ", due is " + want);
        }
    }

    static void same(String what, String want, String got) {
        asked++;
        if (!want.equals(got)) {
            tellWrong(what + " is " + got + ", due is " + want);
        }
    }

    private static void tellWrong(String words) {
        wrong++;
        System.out.println(words + (sentence.isEmpty() ? "" : " [" + sentence + "]"));
    }

    /**
     * The checks up to the next sentence are for these words of the document, which must stand so under this heading:
     * where they do not any more, the test is of an older document. (Without the document at hand this can't be seen.)
     */
    static void sentence(String heading, String words) {
        endSentence();
        sentence = heading + ": " + words;
        askedAheadOfSentence = asked;
        if (hasDocument() && !sectionOf(heading).contains(words)) {
            tellWrong("the document has no such words any more");
        }
    }

    static boolean hasDocument() {
        return Files.exists(Path.of(DOCUMENT));
    }

    static String textOf(String file) {
        try {
            return Files.readString(Path.of(file));
        } catch (IOException e) {
            tellWrong(file + " can't be read");
            return "";
        }
    }

    private static void endSentence() {
        if (asked == askedAheadOfSentence) {
            tellWrong("nothing was asked");
        }
    }

    /** From the heading that begins with these words to the next one. */
    static String sectionOf(String heading) {
        if (document.isEmpty()) {
            document = textOf(DOCUMENT);
        }
        StringBuilder section = new StringBuilder();
        boolean isIn = false;
        for (String line : document.split("\n")) {
            if (line.startsWith("#") || line.equals("Reads, bursts")) {
                String title = line.replace("#", "").trim();
                isIn = title.equals(heading) || title.startsWith(heading + ":");
            }
            if (isIn) {
                section.append(line).append('\n');
            }
        }
        return section.toString();
    }

    static void end(String test) {
        endSentence();
        System.out.println(test + ": " + asked + " answers asked, " + wrong + " wrong");
        if (asked == 0 || wrong != 0) {
            System.exit(1);
        }
    }

    static void type(Chip chip, String orders) {
        for (int i = 0; i < orders.length(); i++) {
            chip.type(orders.charAt(i));
        }
    }

    static void retype(Chip chip, String orders) {
        chip.clearText();
        type(chip, orders);
    }

    /**
     * All that a state of the history records, in at most 119 calls. (What a failed cell is stands in the value of its
     * register; what is left out follows from what is asked.)
     */
    static String stateOf(Chip chip) {
        StringBuilder state = new StringBuilder("registers ");
        for (int register = 0; register < 7; register++) {
            state.append(chip.registerOf(register, 0)).append('/').append(chip.registerOf(register, 4)).append('/')
                .append(chip.registerOf(register, 5)).append(' ');
        }
        for (int alarm = 0; alarm < 3; alarm++) {
            state.append("alarm ");
            for (int what = 0; what <= 8; what++) {
                state.append(chip.alarmOf(alarm, what)).append(' ');
            }
        }
        state.append("counts ");
        int[] counts = {0, 1, 6, 7, 8, 9, 10, 20, 21, 22};
        for (int what : counts) {
            state.append(chip.count(what)).append(' ');
        }
        int entries = chip.count(11);
        state.append("log ").append(entries).append(' ');
        for (int ago = 0; ago < entries; ago++) {
            for (int what = 0; what <= 9; what++) {
                state.append(chip.log(ago, what)).append(' ');
            }
        }
        return state.toString();
    }

    /** The values of the registers 0 to 6. */
    static String shownBy(Chip chip) {
        StringBuilder shown = new StringBuilder();
        for (int register = 0; register < 7; register++) {
            shown.append(Integer.toHexString(chip.registerOf(register, 0))).append(' ');
        }
        return shown.toString();
    }

    static String told(int... values) {
        StringBuilder told = new StringBuilder();
        for (int value : values) {
            told.append(Integer.toHexString(value)).append(' ');
        }
        return told.toString();
    }

    /** What the latest burst told of the registers 0 to 6. */
    static String toldBy(Chip chip) {
        StringBuilder told = new StringBuilder();
        for (int register = 0; register < 7; register++) {
            told.append(Integer.toHexString(chip.log(0, register))).append(' ');
        }
        return told.toString();
    }

    /** A chip whose registers were written with these values, from the seconds on; no time has passed. */
    static Chip showing(int... values) {
        Chip chip = new Chip();
        for (int register = 0; register < values.length; register++) {
            chip.write(register, values[register]);
        }
        return chip;
    }

    /** The code of ten of a number below 100. */
    static int code(int number) {
        return 16 * (number / 10) + number % 10;
    }

    /** Year, month, day, hours, minutes, seconds in codes of ten. */
    static void setTime(Chip chip, int... codes) {
        int[] registers = {6, 5, 4, 2, 1, 0};
        for (int i = 0; i < codes.length; i++) {
            chip.write(registers[i], codes[i]);
        }
    }
}
