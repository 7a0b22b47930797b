import java.util.HashSet;
import java.util.Set;

/** The boundary cases of pegs as text, promises 2 to 5. */
final class TextBoundariesTest extends Boundaries {
    private static final String[] NAMES = {
        "N", "NbE", "NNE", "NEbN", "NE", "NEbE", "ENE", "EbN", "E", "EbS", "ESE", "SEbE", "SE", "SEbS", "SSE", "SbE",
        "S", "SbW", "SSW", "SWbS", "SW", "SWbW", "WSW", "WbS", "W", "WbN", "WNW", "NWbW", "NW", "NWbN", "NNW", "NbW"
    };

    public static void main(String[] args) {
        begin("TextBoundariesTest");
        appendCharacter();
        appendLength();
        appendFull();
        appendBothErrors();
        clearEmpty();
        clearFull();
        clearLeavesNothing();
        errorInEmpty();
        errorInFull();
        errorAtFirst();
        errorInName();
        errorAtBlank();
        errorAtFirstDigit();
        errorAfterZero();
        errorAboveGreatest();
        errorIsFirstOfSeveral();
        errorAtAnyCharacter();
        errorChangesNothing();
        bufferPegNumber();
        bufferPegOfEachText();
        bufferPegHasNoLeeway();
        bufferIsEmptied();
        bufferNotAllowed();
        bufferWithoutDigit();
        bufferFull();
        bufferBothErrors();
        end();
    }

    private static void appendCharacter() {
        promise(2, "ch: character code, 32 to 126");
        for (int ch = 32; ch <= 126; ch++) {
            TraverseBoard x = fresh();
            due("append(" + ch + ")", x.append(ch), 1);
            due("digest() with " + ch, x.digest(), digestOfBuffer(ch));
        }
        for (int ch : outside(32, 126)) {
            refused("append(" + ch + ")", Boundaries::fresh, x -> x.append(ch), OUT_OF_RANGE);
            refused("append(" + ch + ")", Boundaries::sailed, x -> x.append(ch), OUT_OF_RANGE);
        }
        // Codes that a narrower type would take for an N.
        for (int ch : new int[] {-1, 0, 'N' + 128, 'N' + 256, 'N' - 256, 'N' + 65536, 'N' - 65536}) {
            refused("append(" + ch + ")", Boundaries::sailed, x -> x.append(ch), OUT_OF_RANGE);
        }
    }

    private static void appendLength() {
        promise(2, "Returns the new length of the buffer");
        TraverseBoard x = fresh();
        for (int length = 1; length <= 12; length++) {
            due("append(78)", x.append('N'), length);
        }
        due("clearBuffer()", x.clearBuffer(), 12);
        due("append(78)", x.append('N'), 1);
    }

    private static void appendFull() {
        promise(2, "FULL if the buffer already holds 12 characters");
        due("append(57) to 11 characters", written("NEbN 200000").append('9'), 12);
        refused("append(57) to 12 characters", () -> written("NEbN 2000000"), x -> x.append('9'), FULL);
        refused("append(32) to 12 characters", Boundaries::full, x -> x.append(32), FULL);
        refused("append(126) to 12 characters", Boundaries::full, x -> x.append(126), FULL);
        TraverseBoard x = full();
        due("append(57)", x.append('9'), FULL);
        due("append(57) again", x.append('9'), FULL);
        due("clearBuffer()", x.clearBuffer(), 12);
        due("append(57) to the emptied buffer", x.append('9'), 1);
    }

    private static void appendBothErrors() {
        promise(2, "OUT_OF_RANGE if ch is out of range; FULL if the buffer already holds 12 characters", "both errors apply");
        for (int ch : outside(32, 126)) {
            refused("append(" + ch + ") to 12 characters", Boundaries::full, x -> x.append(ch), OUT_OF_RANGE);
        }
    }

    private static void clearEmpty() {
        promise(3, "Returns the length of the buffer before the call", "none");
        unchanged("clearBuffer()", Boundaries::fresh, x -> x.clearBuffer(), 0);
        TraverseBoard x = written("E");
        due("clearBuffer() of one character", x.clearBuffer(), 1);
        due("clearBuffer() of none", x.clearBuffer(), 0);
    }

    private static void clearFull() {
        promise(3, "Returns the length of the buffer before the call", "12 characters");
        TraverseBoard x = full();
        due("clearBuffer() of 12 characters", x.clearBuffer(), 12);
        due("clearBuffer() of none", x.clearBuffer(), 0);
        due("clearBuffer() of 11 characters", written("NEbN 200000").clearBuffer(), 11);
    }

    private static void clearLeavesNothing() {
        promise(3, "Empties the input buffer");
        TraverseBoard x = written("NbW 19999999");
        x.clearBuffer();
        due("errorPosition()", x.errorPosition(), 0);
        due("addFromBuffer()", x.addFromBuffer(), INVALID_PEG);
        due("digest()", x.digest(), fresh().digest());
        write(x, "NbW 1");
        due("errorPosition() in front of what was cleared", x.errorPosition(), 5);
        due("addFromBuffer()", x.addFromBuffer(), 0);
        due("speedOf(0)", x.speedOf(0), 1);
    }

    private static void errorInEmpty() {
        promise(4, "or the length of the buffer if there is none", "an empty buffer");
        due("errorPosition()", fresh().errorPosition(), 0);
        due("errorPosition()", pegs(48, 0, 0).errorPosition(), 0);
    }

    private static void errorInFull() {
        promise(4, "Returns the index of that character", "a full buffer");
        errorAt("NEbN 2000000", 8);
        errorAt("NbW 19999999", 7);
        errorAt("E 2000000000", 5);
        errorAt("E 0000000000", 3);
        errorAt("NEbNNEbNNEbN", 4);
        errorAt("            ", 0);
        errorAt("xxxxxxxxxxxx", 0);
        errorAt("S           ", 2);
    }

    private static void errorAtFirst() {
        promise(4, "a character is allowed if the characters up to it are the beginning of at least one name", "the first one");
        for (int ch = 32; ch <= 126; ch++) {
            errorAt("" + (char) ch, "NESW".indexOf(ch) >= 0 ? 1 : 0);
        }
    }

    private static void errorInName() {
        promise(4, "a character is allowed if the characters up to it are the beginning of at least one name");
        for (String name : NAMES) {
            for (int length = 1; length <= name.length(); length++) {
                errorAt(name.substring(0, length), length);
            }
        }
        errorAt("NS", 1);
        errorAt("EW", 1);
        errorAt("Ne", 1);
        errorAt("NB", 1);
        errorAt("NbS", 2);
        errorAt("NbN", 2);
        errorAt("NEE", 2);
        errorAt("NEbS", 3);
        errorAt("NNEb", 3);
        errorAt("NbEb", 3);
        errorAt("ENEb", 3);
        errorAt("NEbNb", 4);
        errorAt("NEbEE", 4);
        errorAt("SWbWW", 4);
    }

    private static void errorAtBlank() {
        promise(4, "a blank is allowed if the characters before it are a whole name");
        for (String name : NAMES) {
            errorAt(name + " ", name.length() + 1);
        }
        errorAt(" ", 0);
        errorAt(" N 5", 0);
        for (String beginning : new String[] {"Nb", "NN", "NEb", "EN", "Eb", "ES", "SEb", "SS", "Sb", "SWb", "WS", "Wb", "WN", "NWb"}) {
            errorAt(beginning + " 5", beginning.length());
        }
        errorAt("N  ", 2);
        errorAt("NEbN  5", 5);
        errorAt("N5", 1);
        errorAt("NEbN5", 4);
    }

    private static void errorAtFirstDigit() {
        promise(4, "After the blank, the first digit is allowed");
        for (int ch = 32; ch <= 126; ch++) {
            boolean digit = ch >= '0' && ch <= '9';
            errorAt("N " + (char) ch, digit ? 3 : 2);
            errorAt("SWbW " + (char) ch, digit ? 6 : 5);
        }
    }

    private static void errorAfterZero() {
        promise(4, "a further digit is allowed if the number so far is not 0");
        for (char digit = '0'; digit <= '9'; digit++) {
            errorAt("N 0" + digit, 3);
            errorAt("N 1" + digit, 4);
            errorAt("N 10" + digit, 5);
        }
        errorAt("NEbN 00", 6);
        errorAt("NEbN 0200", 6);
    }

    private static void errorAboveGreatest() {
        promise(4, "and the new number is at most 200");
        for (int speed = 0; speed <= 2100; speed++) {
            String digits = "" + speed;
            int allowed = speed <= 200 ? digits.length() : speed <= 999 ? 2 : speed <= 2009 ? 3 : 2;
            errorAt("S " + digits, 2 + allowed);
            errorAt("NEbE " + digits, 5 + allowed);
        }
        errorAt("S 9999", 4);
        // Digits that come to a small number again where an int goes round: 2^32 is 4294967296.
        errorAt("N 4294967297", 4);
        errorAt("N 1000000000", 5);
    }

    private static void errorIsFirstOfSeveral() {
        promise(4, "Finds the first character of the buffer that the rules for a peg do not allow at its place");
        errorAt("x N 5", 0);
        errorAt("Nx 5x", 1);
        errorAt("N x5 x", 2);
        errorAt("N 0000", 3);
        errorAt("N 201 201", 4);
        errorAt("N 5 N 5", 3);
        errorAt("N 5N 5", 3);
        errorAt("NN 201", 2);
    }

    private static void errorAtAnyCharacter() {
        promise(4, "The buffer is read from left to right");
        Set<String> allowed = beginningsOfPegs();
        for (String beginning : allowed) {
            for (char ch = 32; ch <= 126; ch++) {
                String text = beginning + ch;
                long got = written(text).errorPosition();
                long want = allowed.contains(text) ? text.length() : beginning.length();
                due("errorPosition() of \"" + text + "\"", got, want);
            }
        }
    }

    private static Set<String> beginningsOfPegs() {
        Set<String> beginnings = new HashSet<>();
        for (String name : NAMES) {
            for (int speed = 0; speed <= 200; speed++) {
                String text = name + " " + speed;
                for (int length = 0; length <= text.length(); length++) {
                    beginnings.add(text.substring(0, length));
                }
            }
        }
        return beginnings;
    }

    private static void errorChangesNothing() {
        promise(4, "Finds the first character", "and changes nothing");
        unchanged("errorPosition()", Boundaries::fresh, x -> x.errorPosition(), 0);
        unchanged("errorPosition()", Boundaries::sailed, x -> x.errorPosition(), 7);
        unchanged("errorPosition()", Boundaries::full, x -> x.errorPosition(), 7);
    }

    private static void bufferPegNumber() {
        promise(5, "Returns the number of the peg");
        TraverseBoard x = fresh();
        for (int peg = 0; peg < 48; peg++) {
            write(x, "E 3");
            due("addFromBuffer()", x.addFromBuffer(), peg);
        }
        due("pegCount()", x.pegCount(), 48);
        due("addFromBuffer() behind five pegs", sailed().addFromBuffer(), 5);
    }

    private static void bufferPegOfEachText() {
        promise(5, "Adds the peg in the buffer behind the last peg");
        for (int point = 0; point < 32; point++) {
            for (int speed = 0; speed <= 200; speed++) {
                String text = NAMES[point] + " " + speed;
                TraverseBoard x = written(text);
                due("addFromBuffer() of " + text, x.addFromBuffer(), 0);
                due("pointOf(0) of " + text, x.pointOf(0), point);
                due("speedOf(0) of " + text, x.speedOf(0), speed);
            }
        }
    }

    private static void bufferPegHasNoLeeway() {
        promise(5, "with leeway 0");
        TraverseBoard x = full();
        for (int leeway = -2; leeway <= 2; leeway++) {
            x.setLeeway(47, leeway);
            x.lose(47);
            x.removeLast();
            x.clearBuffer();
            write(x, "NNW 200");
            due("addFromBuffer() where a peg was removed", x.addFromBuffer(), 47);
            due("pointOf(47), not lost", x.pointOf(47), 30);
            due("speedOf(47), not lost", x.speedOf(47), 200);
            due("setLeeway(47, 0)", x.setLeeway(47, 0), 0);
        }
    }

    private static void bufferIsEmptied() {
        promise(5, "and empties the buffer");
        TraverseBoard x = written("NEbN 200");
        due("addFromBuffer()", x.addFromBuffer(), 0);
        due("errorPosition()", x.errorPosition(), 0);
        due("addFromBuffer() again", x.addFromBuffer(), INVALID_PEG);
        due("pegCount()", x.pegCount(), 1);
        due("clearBuffer()", x.clearBuffer(), 0);
        due("append(78)", x.append('N'), 1);
    }

    private static void bufferNotAllowed() {
        promise(5, "INVALID_PEG if the buffer has a character that is not allowed");
        for (String text : new String[] {" ", "x", "5", " N 5", "x N 5", "NS 5", "Nb 5", "n 5", "N  5", "N5", "N x5", "N -5",
                "N +5", "N 05", "N 00", "N 201", "N 210", "N 999", "N 1000", "N 5 ", "N 5x", "N 5 5", "N 5.5", "NEbNE 5",
                "NEbN 2000000", "xxxxxxxxxxxx", "            "}) {
            refused("addFromBuffer() of \"" + text + "\"", () -> written(text), x -> x.addFromBuffer(), INVALID_PEG);
        }
    }

    private static void bufferWithoutDigit() {
        promise(5, "or does not end with a digit of the speed");
        refused("addFromBuffer() of nothing", Boundaries::fresh, x -> x.addFromBuffer(), INVALID_PEG);
        for (String name : NAMES) {
            for (int length = 1; length <= name.length(); length++) {
                String beginning = name.substring(0, length);
                refused("addFromBuffer() of " + beginning, () -> written(beginning), x -> x.addFromBuffer(), INVALID_PEG);
            }
            refused("addFromBuffer() of a blank behind " + name, () -> written(name + " "), x -> x.addFromBuffer(), INVALID_PEG);
        }
    }

    private static void bufferFull() {
        promise(5, "FULL if there are 48 pegs");
        refused("addFromBuffer(), 48 pegs", () -> fullAndWritten("NEbN 200"), x -> x.addFromBuffer(), FULL);
        refused("addFromBuffer(), 48 pegs", () -> fullAndWritten("N 0"), x -> x.addFromBuffer(), FULL);
        TraverseBoard x = fullAndWritten("NEbN 200");
        due("addFromBuffer(), 48 pegs", x.addFromBuffer(), FULL);
        due("removeLast()", x.removeLast(), 47);
        due("addFromBuffer(), 47 pegs, the text is there still", x.addFromBuffer(), 47);
        due("pointOf(47)", x.pointOf(47), 3);
        due("speedOf(47)", x.speedOf(47), 200);
        due("clearBuffer()", x.clearBuffer(), 0);
        write(x, "N 0");
        due("addFromBuffer(), 48 pegs again", x.addFromBuffer(), FULL);
    }

    private static void bufferBothErrors() {
        promise(5, "does not end with a digit of the speed; FULL if there are 48 pegs", "both errors apply");
        for (String text : new String[] {"", "N", "N ", "x", "N 201", "N 5x", "NbW 19999999"}) {
            refused("addFromBuffer() of \"" + text + "\", 48 pegs", () -> fullAndWritten(text), x -> x.addFromBuffer(), INVALID_PEG);
        }
    }

    private static void errorAt(String text, int want) {
        TraverseBoard x = written(text);
        due("errorPosition() of \"" + text + "\"", x.errorPosition(), want);
    }

    /** The digest of a board that is new but for one character. */
    private static long digestOfBuffer(int ch) {
        long hash = 1811;
        for (long value : new long[] {0, 0, 0, 1, 0, 0, 0, 0, 0, NOTHING, 1, ch}) {
            hash = 31 * hash + value;
        }
        return hash;
    }
}
