/** The promises of the document, one method each: ordinary inputs, the edges that it names, wrong inputs. */
final class PromiseTest {
    private static final long OUT_OF_RANGE = -9000000000000000001L;
    private static final long NO_SUCH_PEG = -9000000000000000002L;
    private static final long NO_SUCH_MOMENT = -9000000000000000003L;
    private static final long FULL = -9000000000000000004L;
    private static final long INVALID_PEG = -9000000000000000005L;
    private static final long WRONG_STATE = -9000000000000000006L;
    private static final long NOTHING = -9000000000000000007L;

    private static final int LEAST = Integer.MIN_VALUE;
    private static final int GREATEST = Integer.MAX_VALUE;

    private static final String[] NAMES = {
        "N", "NbE", "NNE", "NEbN", "NE", "NEbE", "ENE", "EbN", "E", "EbS", "ESE", "SEbE", "SE", "SEbS", "SSE", "SbE",
        "S", "SbW", "SSW", "SWbS", "SW", "SWbW", "WSW", "WbS", "W", "WbN", "WNW", "NWbW", "NW", "NWbN", "NNW", "NbW"
    };

    private static final int[] SIN = {
        0, 1951, 3827, 5556, 7071, 8315, 9239, 9808, 10000, 9808, 9239, 8315, 7071, 5556, 3827, 1951,
        0, -1951, -3827, -5556, -7071, -8315, -9239, -9808, -10000, -9808, -9239, -8315, -7071, -5556, -3827, -1951
    };

    private static final Check check = new Check("PromiseTest");

    public static void main(String[] args) {
        constants();
        newObject();
        append();
        clearBuffer();
        errorPosition();
        addFromBuffer();
        add();
        replace();
        removeLast();
        lose();
        setLeeway();
        setCurrent();
        pegCount();
        pointOf();
        speedOf();
        speedTowards();
        setFix();
        removeFix();
        reckoned();
        corrected();
        distance();
        bearing();
        findLost();
        digest();
        check.end();
    }

    private static void constants() {
        check.about("constants");
        check.due("OUT_OF_RANGE", TraverseBoard.OUT_OF_RANGE, OUT_OF_RANGE);
        check.due("NO_SUCH_PEG", TraverseBoard.NO_SUCH_PEG, NO_SUCH_PEG);
        check.due("NO_SUCH_MOMENT", TraverseBoard.NO_SUCH_MOMENT, NO_SUCH_MOMENT);
        check.due("FULL", TraverseBoard.FULL, FULL);
        check.due("INVALID_PEG", TraverseBoard.INVALID_PEG, INVALID_PEG);
        check.due("WRONG_STATE", TraverseBoard.WRONG_STATE, WRONG_STATE);
        check.due("NOTHING", TraverseBoard.NOTHING, NOTHING);
    }

    private static void newObject() {
        check.promise(1, "a new object");
        TraverseBoard x = new TraverseBoard();
        check.due("pegCount()", x.pegCount(), 0);
        check.due("errorPosition()", x.errorPosition(), 0);
        check.due("clearBuffer()", x.clearBuffer(), 0);
        check.due("setCurrent(0, 0)", x.setCurrent(0, 0), 0);
        positions(x, 0, 0, 0, 0, 0);
        TraverseBoard other = new TraverseBoard();
        x.add(3, 4);
        x.append('N');
        check.due("pegCount() of another", other.pegCount(), 0);
        check.due("clearBuffer() of another", other.clearBuffer(), 0);
    }

    private static void append() {
        check.promise(2, "append");
        TraverseBoard x = new TraverseBoard();
        check.due("append(31)", x.append(31), OUT_OF_RANGE);
        check.due("append(127)", x.append(127), OUT_OF_RANGE);
        check.due("append(-1)", x.append(-1), OUT_OF_RANGE);
        check.due("append(least)", x.append(LEAST), OUT_OF_RANGE);
        check.due("append(greatest)", x.append(GREATEST), OUT_OF_RANGE);
        check.due("append(32)", x.append(32), 1);
        check.due("append(126)", x.append(126), 2);
        for (int length = 3; length <= 12; length++) {
            check.due("append(65)", x.append(65), length);
        }
        check.due("append(65) to a full buffer", x.append(65), FULL);
        check.due("append(127) to a full buffer", x.append(127), OUT_OF_RANGE);
        check.due("clearBuffer()", x.clearBuffer(), 12);
    }

    private static void clearBuffer() {
        check.promise(3, "clearBuffer");
        TraverseBoard x = new TraverseBoard();
        check.due("clearBuffer()", x.clearBuffer(), 0);
        write(x, "E 1x");
        check.due("clearBuffer()", x.clearBuffer(), 4);
        check.due("clearBuffer()", x.clearBuffer(), 0);
        check.due("errorPosition()", x.errorPosition(), 0);
        check.due("append(78)", x.append('N'), 1);
        check.due("errorPosition()", x.errorPosition(), 1);
    }

    private static void errorPosition() {
        check.promise(4, "errorPosition");
        errorAt("", 0);
        for (String name : NAMES) {
            for (int length = 1; length <= name.length(); length++) {
                errorAt(name.substring(0, length), length);
            }
            errorAt(name + " ", name.length() + 1);
            errorAt(name + "  ", name.length() + 1);
            errorAt(name + " 200", name.length() + 4);
            errorAt(name + " 201", name.length() + 3);
            errorAt(name + " 0", name.length() + 2);
            errorAt(name + " 00", name.length() + 2);
            errorAt(name + " N", name.length() + 1);
        }
        errorAt(" ", 0);
        errorAt("n", 0);
        errorAt("b", 0);
        errorAt("0", 0);
        errorAt("X 5", 0);
        errorAt("NS", 1);
        errorAt("N5", 1);
        errorAt("Nb ", 2);
        errorAt("NEb 5", 3);
        errorAt("NNb", 2);
        errorAt("ENb", 2);
        errorAt("NEbNE", 4);
        errorAt("NEbNb", 4);
        errorAt("NbEbN", 3);
        errorAt("EbE", 2);
        errorAt("SbE 19", 6);
        errorAt("N 01", 3);
        errorAt("N 05 x", 3);
        errorAt("N -1", 2);
        errorAt("N 1 ", 3);
        errorAt("N 1/", 3);
        errorAt("N 1:", 3);
        errorAt("N /", 2);
        errorAt("N :", 2);
        errorAt("N 199", 5);
        errorAt("N 20", 4);
        errorAt("N 21", 4);
        errorAt("N 209", 4);
        errorAt("N 210", 4);
        errorAt("N 300", 4);
        errorAt("N 999", 4);
        errorAt("N 1000", 5);
        errorAt("N 2000", 5);
        errorAt("NEbN 2000000", 8);
        errorAt("NNNNNNNNNNNN", 2);
        TraverseBoard x = new TraverseBoard();
        write(x, "N 150");
        x.clearBuffer();
        write(x, "N 1");
        check.due("errorPosition() of N 1 after N 150", x.errorPosition(), 3);
        check.due("addFromBuffer() of N 1 after N 150", x.addFromBuffer(), 0);
        check.due("speedOf(0)", x.speedOf(0), 1);
        write(x, "N");
        check.due("errorPosition() of N after N 1", x.errorPosition(), 1);
    }

    private static void errorAt(String text, int due) {
        TraverseBoard x = new TraverseBoard();
        write(x, text);
        check.due("errorPosition() of \"" + text + "\"", x.errorPosition(), due);
        check.due("the length of \"" + text + "\"", x.clearBuffer(), text.length());
    }

    private static void addFromBuffer() {
        check.promise(5, "addFromBuffer");
        for (int point = 0; point < 32; point++) {
            for (int speed : new int[] {0, 1, 9, 10, 57, 99, 100, 199, 200}) {
                TraverseBoard x = new TraverseBoard();
                x.add(31 - point, 7);
                write(x, NAMES[point] + " " + speed);
                check.due("addFromBuffer()", x.addFromBuffer(), 1);
                check.due("pointOf(1) of " + NAMES[point], x.pointOf(1), point);
                check.due("speedOf(1) of " + speed, x.speedOf(1), speed);
                check.due("clearBuffer()", x.clearBuffer(), 0);
                check.due("setLeeway(1, 0)", x.setLeeway(1, 0), 0);
            }
        }
        for (String text : new String[] {"", "N", "N ", "5", "NEbN", "NEbN ", "X 5", "N 201", "N 01", "N 5 ", "N 5x", "N 5 6", "Nb 6"}) {
            TraverseBoard x = new TraverseBoard();
            write(x, text);
            check.due("addFromBuffer() of \"" + text + "\"", x.addFromBuffer(), INVALID_PEG);
            check.due("pegCount()", x.pegCount(), 0);
            check.due("clearBuffer()", x.clearBuffer(), text.length());
        }
        TraverseBoard x = fullBoard();
        write(x, "N");
        check.due("addFromBuffer() of N, 48 pegs", x.addFromBuffer(), INVALID_PEG);
        write(x, " 5");
        check.due("addFromBuffer() of N 5, 48 pegs", x.addFromBuffer(), FULL);
        check.due("removeLast()", x.removeLast(), 47);
        check.due("addFromBuffer() of N 5, 47 pegs", x.addFromBuffer(), 47);
        check.due("clearBuffer()", x.clearBuffer(), 0);
    }

    private static void add() {
        check.promise(6, "add");
        TraverseBoard x = new TraverseBoard();
        check.due("add(-1, 5)", x.add(-1, 5), OUT_OF_RANGE);
        check.due("add(32, 5)", x.add(32, 5), OUT_OF_RANGE);
        check.due("add(5, -1)", x.add(5, -1), OUT_OF_RANGE);
        check.due("add(5, 201)", x.add(5, 201), OUT_OF_RANGE);
        check.due("add(least, 5)", x.add(LEAST, 5), OUT_OF_RANGE);
        check.due("add(5, greatest)", x.add(5, GREATEST), OUT_OF_RANGE);
        check.due("pegCount()", x.pegCount(), 0);
        for (int peg = 0; peg < 48; peg++) {
            int point = peg % 2 == 0 ? 31 : 0;
            int speed = peg % 3 == 0 ? 200 : 0;
            check.due("add", x.add(point, speed), peg);
            check.due("pointOf", x.pointOf(peg), point);
            check.due("speedOf", x.speedOf(peg), speed);
            check.due("setLeeway", x.setLeeway(peg, 1), 0);
        }
        check.due("add(0, 0), 48 pegs", x.add(0, 0), FULL);
        check.due("add(32, 0), 48 pegs", x.add(32, 0), OUT_OF_RANGE);
        check.due("add(0, 201), 48 pegs", x.add(0, 201), OUT_OF_RANGE);
        check.due("pegCount()", x.pegCount(), 48);
        x.lose(47);
        x.removeLast();
        check.due("add(6, 60) where a peg was removed", x.add(6, 60), 47);
        check.due("pointOf(47), a new peg is not lost", x.pointOf(47), 6);
        check.due("setLeeway(47, 0), a new peg has leeway 0", x.setLeeway(47, 0), 0);
    }

    private static void replace() {
        check.promise(7, "replace");
        TraverseBoard x = new TraverseBoard();
        check.due("replace(0, 1, 1) without pegs", x.replace(0, 1, 1), NO_SUCH_PEG);
        x.add(4, 40);
        x.add(5, 50);
        x.setLeeway(1, -2);
        check.due("replace(1, 31, 200)", x.replace(1, 31, 200), 0);
        check.due("pointOf(1)", x.pointOf(1), 31);
        check.due("speedOf(1)", x.speedOf(1), 200);
        check.due("pointOf(0)", x.pointOf(0), 4);
        x.lose(1);
        check.due("replace(1, 32, 0)", x.replace(1, 32, 0), OUT_OF_RANGE);
        check.due("replace(1, 0, 201)", x.replace(1, 0, 201), OUT_OF_RANGE);
        check.due("replace(1, -1, 0)", x.replace(1, -1, 0), OUT_OF_RANGE);
        check.due("replace(1, 0, -1)", x.replace(1, 0, -1), OUT_OF_RANGE);
        check.due("pointOf(1), lost still", x.pointOf(1), WRONG_STATE);
        check.due("replace(1, 0, 0)", x.replace(1, 0, 0), 1);
        check.due("replace(1, 0, 0) again", x.replace(1, 0, 0), 0);
        check.due("pointOf(1)", x.pointOf(1), 0);
        check.due("setLeeway(1, 0), it stayed", x.setLeeway(1, 0), -2);
        check.due("replace(2, 32, 0)", x.replace(2, 32, 0), NO_SUCH_PEG);
        check.due("replace(-1, 0, 201)", x.replace(-1, 0, 201), NO_SUCH_PEG);
        check.due("replace(greatest, 0, 0)", x.replace(GREATEST, 0, 0), NO_SUCH_PEG);
        check.due("replace(least, 0, 0)", x.replace(LEAST, 0, 0), NO_SUCH_PEG);
    }

    private static void removeLast() {
        check.promise(8, "removeLast");
        TraverseBoard x = new TraverseBoard();
        check.due("removeLast()", x.removeLast(), NOTHING);
        x.add(0, 10);
        x.add(8, 10);
        x.add(16, 10);
        x.setFix(2, 5, 6);
        x.setFix(3, 7, 8);
        check.due("removeLast()", x.removeLast(), 2);
        check.due("pegCount()", x.pegCount(), 2);
        check.due("pointOf(2)", x.pointOf(2), NO_SUCH_PEG);
        positions(x, 2, 5, 6, 5, 6);
        x.add(0, 1);
        check.due("removeFix(3), the fix went with its peg", x.removeFix(3), NOTHING);
        check.due("removeFix(2), the fix before it stayed", x.removeFix(2), 1);
        check.due("removeLast()", x.removeLast(), 2);
        check.due("removeLast()", x.removeLast(), 1);
        check.due("removeLast()", x.removeLast(), 0);
        check.due("removeLast()", x.removeLast(), NOTHING);
        positions(x, 0, 0, 0, 0, 0);
    }

    private static void lose() {
        check.promise(9, "lose");
        TraverseBoard x = new TraverseBoard();
        check.due("lose(0) without pegs", x.lose(0), NO_SUCH_PEG);
        x.add(0, 10);
        x.add(8, 20);
        x.add(8, 30);
        check.due("lose(2)", x.lose(2), 1);
        check.due("lose(2)", x.lose(2), WRONG_STATE);
        check.due("lose(0)", x.lose(0), 2);
        check.due("lose(1)", x.lose(1), 3);
        check.due("lose(3)", x.lose(3), NO_SUCH_PEG);
        check.due("lose(-1)", x.lose(-1), NO_SUCH_PEG);
        check.due("lose(least)", x.lose(LEAST), NO_SUCH_PEG);
        check.due("lose(greatest)", x.lose(GREATEST), NO_SUCH_PEG);
        check.due("pegCount()", x.pegCount(), 3);
        x.replace(1, 8, 20);
        check.due("lose(1) again", x.lose(1), 3);
        x.removeLast();
        x.replace(0, 0, 0);
        check.due("lose(0), one lost peg removed", x.lose(0), 2);
        positions(x, 2, 0, 0, 0, 0);
    }

    private static void setLeeway() {
        check.promise(10, "setLeeway");
        TraverseBoard x = new TraverseBoard();
        check.due("setLeeway(0, 0) without pegs", x.setLeeway(0, 0), NO_SUCH_PEG);
        x.add(0, 10);
        x.add(31, 100);
        check.due("setLeeway(1, -2)", x.setLeeway(1, -2), 0);
        check.due("setLeeway(1, 2)", x.setLeeway(1, 2), -2);
        check.due("setLeeway(1, -3)", x.setLeeway(1, -3), OUT_OF_RANGE);
        check.due("setLeeway(1, 3)", x.setLeeway(1, 3), OUT_OF_RANGE);
        check.due("setLeeway(1, least)", x.setLeeway(1, LEAST), OUT_OF_RANGE);
        check.due("setLeeway(2, 3)", x.setLeeway(2, 3), NO_SUCH_PEG);
        check.due("setLeeway(-1, 0)", x.setLeeway(-1, 0), NO_SUCH_PEG);
        check.due("reckonedNorth(2), NbW becomes NbE", x.reckonedNorth(2), 100000 + 980800);
        check.due("reckonedEast(2), NbW becomes NbE", x.reckonedEast(2), 195100);
        check.due("lose(1)", x.lose(1), 1);
        check.due("setLeeway(1, 1)", x.setLeeway(1, 1), 2);
        check.due("setLeeway(0, 0)", x.setLeeway(0, 0), 0);
        check.due("replace(1, 31, 100)", x.replace(1, 31, 100), 1);
        check.due("reckonedNorth(2), NbW becomes N", x.reckonedNorth(2), 1100000);
        check.due("reckonedEast(2), NbW becomes N", x.reckonedEast(2), 0);
        check.due("setLeeway(0, -1)", x.setLeeway(0, -1), 0);
        check.due("reckonedNorth(1), N becomes NbW", x.reckonedNorth(1), 98080);
        check.due("reckonedEast(1), N becomes NbW", x.reckonedEast(1), -19510);
        check.due("pointOf(0)", x.pointOf(0), 0);
    }

    private static void setCurrent() {
        check.promise(11, "setCurrent");
        TraverseBoard x = new TraverseBoard();
        x.add(0, 10);
        x.add(8, 20);
        check.due("setCurrent(31, 50)", x.setCurrent(31, 50), 0);
        check.due("setCurrent(32, 1)", x.setCurrent(32, 1), OUT_OF_RANGE);
        check.due("setCurrent(-1, 1)", x.setCurrent(-1, 1), OUT_OF_RANGE);
        check.due("setCurrent(1, -1)", x.setCurrent(1, -1), OUT_OF_RANGE);
        check.due("setCurrent(1, 51)", x.setCurrent(1, 51), OUT_OF_RANGE);
        check.due("setCurrent(greatest, least)", x.setCurrent(GREATEST, LEAST), OUT_OF_RANGE);
        positions(x, 2, 100000 + 2 * 50 * 9808, 200000 - 2 * 50 * 1951, 100000 + 2 * 50 * 9808, 200000 - 2 * 50 * 1951);
        check.due("setCurrent(8, 5)", x.setCurrent(8, 5), 50);
        positions(x, 1, 100000, 50000, 100000, 50000);
        x.setLeeway(0, 1);
        x.lose(0);
        positions(x, 1, 0, 50000, 0, 50000);
        check.due("setCurrent(0, 0)", x.setCurrent(0, 0), 5);
        positions(x, 1, 0, 0, 0, 0);
    }

    private static void pegCount() {
        check.promise(12, "pegCount");
        TraverseBoard x = new TraverseBoard();
        check.due("pegCount()", x.pegCount(), 0);
        x.add(0, 1);
        x.add(0, 1);
        x.lose(0);
        check.due("pegCount(), one lost", x.pegCount(), 2);
        x.removeLast();
        check.due("pegCount()", x.pegCount(), 1);
        check.due("pegCount()", fullBoard().pegCount(), 48);
    }

    private static void pointOf() {
        check.promise(13, "pointOf");
        TraverseBoard x = new TraverseBoard();
        check.due("pointOf(0)", x.pointOf(0), NO_SUCH_PEG);
        x.add(31, 10);
        x.add(7, 20);
        check.due("pointOf(0)", x.pointOf(0), 31);
        check.due("pointOf(1)", x.pointOf(1), 7);
        check.due("pointOf(2)", x.pointOf(2), NO_SUCH_PEG);
        check.due("pointOf(-1)", x.pointOf(-1), NO_SUCH_PEG);
        check.due("pointOf(48)", x.pointOf(48), NO_SUCH_PEG);
        check.due("pointOf(least)", x.pointOf(LEAST), NO_SUCH_PEG);
        check.due("pointOf(greatest)", x.pointOf(GREATEST), NO_SUCH_PEG);
        x.lose(0);
        check.due("pointOf(0), lost", x.pointOf(0), WRONG_STATE);
        check.due("pointOf(1)", x.pointOf(1), 7);
    }

    private static void speedOf() {
        check.promise(14, "speedOf");
        TraverseBoard x = new TraverseBoard();
        check.due("speedOf(0)", x.speedOf(0), NO_SUCH_PEG);
        x.add(31, 200);
        x.add(7, 0);
        check.due("speedOf(0)", x.speedOf(0), 200);
        check.due("speedOf(1)", x.speedOf(1), 0);
        check.due("speedOf(2)", x.speedOf(2), NO_SUCH_PEG);
        check.due("speedOf(-1)", x.speedOf(-1), NO_SUCH_PEG);
        check.due("speedOf(48)", x.speedOf(48), NO_SUCH_PEG);
        check.due("speedOf(least)", x.speedOf(LEAST), NO_SUCH_PEG);
        check.due("speedOf(greatest)", x.speedOf(GREATEST), NO_SUCH_PEG);
        x.lose(1);
        check.due("speedOf(1), lost", x.speedOf(1), WRONG_STATE);
        check.due("speedOf(0)", x.speedOf(0), 200);
    }

    private static void speedTowards() {
        check.promise(15, "speedTowards");
        TraverseBoard x = new TraverseBoard();
        check.due("speedTowards(0)", x.speedTowards(0), 0);
        x.add(3, 10);
        x.add(4, 20);
        x.add(3, 40);
        x.add(31, 200);
        x.setLeeway(1, -1);
        x.setCurrent(3, 7);
        check.due("speedTowards(3)", x.speedTowards(3), 50);
        check.due("speedTowards(4), leeway does not count", x.speedTowards(4), 20);
        check.due("speedTowards(31)", x.speedTowards(31), 200);
        check.due("speedTowards(5)", x.speedTowards(5), 0);
        x.lose(0);
        check.due("speedTowards(3), lost pegs do not count", x.speedTowards(3), 40);
        x.removeLast();
        check.due("speedTowards(31)", x.speedTowards(31), 0);
        check.due("speedTowards(32)", x.speedTowards(32), OUT_OF_RANGE);
        check.due("speedTowards(-1)", x.speedTowards(-1), OUT_OF_RANGE);
        check.due("speedTowards(least)", x.speedTowards(LEAST), OUT_OF_RANGE);
        check.due("speedTowards(greatest)", x.speedTowards(GREATEST), OUT_OF_RANGE);
        TraverseBoard full = new TraverseBoard();
        for (int peg = 0; peg < 48; peg++) {
            full.add(9, 200);
        }
        check.due("speedTowards(9)", full.speedTowards(9), 9600);
    }

    private static void setFix() {
        check.promise(16, "setFix");
        TraverseBoard x = new TraverseBoard();
        check.due("setFix(0, 0, 0)", x.setFix(0, 0, 0), NO_SUCH_MOMENT);
        check.due("setFix(1, 0, 0) without pegs", x.setFix(1, 0, 0), NO_SUCH_MOMENT);
        x.add(0, 10);
        x.add(0, 10);
        check.due("setFix(2, ..)", x.setFix(2, 200000000, -200000000), 2);
        positions(x, 2, 200000000, -200000000, 200000000, -200000000);
        check.due("setFix(2, ..)", x.setFix(2, -200000000, 200000000), 2);
        positions(x, 2, -200000000, 200000000, -200000000, 200000000);
        check.due("setFix(1, ..)", x.setFix(1, 3, 4), 3);
        check.due("setFix(1, ..)", x.setFix(1, 200000001, 0), OUT_OF_RANGE);
        check.due("setFix(1, ..)", x.setFix(1, 0, 200000001), OUT_OF_RANGE);
        check.due("setFix(1, ..)", x.setFix(1, -200000001, 0), OUT_OF_RANGE);
        check.due("setFix(1, ..)", x.setFix(1, 0, -200000001), OUT_OF_RANGE);
        check.due("setFix(1, least, greatest)", x.setFix(1, LEAST, GREATEST), OUT_OF_RANGE);
        positions(x, 1, 3, 4, 3, 4);
        check.due("setFix(3, ..)", x.setFix(3, 200000001, 0), NO_SUCH_MOMENT);
        check.due("setFix(0, ..)", x.setFix(0, 0, 0), NO_SUCH_MOMENT);
        check.due("setFix(-1, ..)", x.setFix(-1, 0, 0), NO_SUCH_MOMENT);
        check.due("setFix(least, ..)", x.setFix(LEAST, 0, 0), NO_SUCH_MOMENT);
        check.due("setFix(greatest, ..)", x.setFix(GREATEST, 0, 0), NO_SUCH_MOMENT);
        TraverseBoard full = fullBoard();
        for (int moment = 48; moment >= 1; moment--) {
            check.due("setFix", full.setFix(moment, moment, -moment), 50 - moment);
        }
        check.due("setFix(49, ..)", full.setFix(49, 0, 0), NO_SUCH_MOMENT);
    }

    private static void removeFix() {
        check.promise(17, "removeFix");
        TraverseBoard x = new TraverseBoard();
        check.due("removeFix(0)", x.removeFix(0), NO_SUCH_MOMENT);
        check.due("removeFix(1) without pegs", x.removeFix(1), NO_SUCH_MOMENT);
        x.add(0, 10);
        x.add(0, 10);
        x.setFix(1, 30, 40);
        x.setFix(2, 50, 60);
        check.due("removeFix(1)", x.removeFix(1), 2);
        check.due("removeFix(1)", x.removeFix(1), NOTHING);
        check.due("reckonedNorth(1)", x.reckonedNorth(1), 100000);
        check.due("removeFix(2)", x.removeFix(2), 1);
        check.due("removeFix(2)", x.removeFix(2), NOTHING);
        check.due("removeFix(0)", x.removeFix(0), NO_SUCH_MOMENT);
        check.due("removeFix(3)", x.removeFix(3), NO_SUCH_MOMENT);
        check.due("removeFix(-1)", x.removeFix(-1), NO_SUCH_MOMENT);
        check.due("removeFix(49)", x.removeFix(49), NO_SUCH_MOMENT);
        check.due("removeFix(least)", x.removeFix(LEAST), NO_SUCH_MOMENT);
        check.due("removeFix(greatest)", x.removeFix(GREATEST), NO_SUCH_MOMENT);
        positions(x, 2, 200000, 0, 200000, 0);
    }

    private static void reckoned() {
        for (int point = 0; point < 32; point++) {
            for (int leeway = -2; leeway <= 2; leeway++) {
                TraverseBoard x = new TraverseBoard();
                x.add(point, 7);
                x.setLeeway(0, leeway);
                x.setCurrent(31 - point, 3);
                int made = (point + leeway + 32) % 32;
                check.promise(18, "reckonedNorth");
                check.due("reckonedNorth(1)", x.reckonedNorth(1), 7 * SIN[(made + 8) % 32] + 3 * SIN[(39 - point) % 32]);
                check.promise(19, "reckonedEast");
                check.due("reckonedEast(1)", x.reckonedEast(1), 7 * SIN[made] + 3 * SIN[31 - point]);
            }
        }
        TraverseBoard x = new TraverseBoard();
        x.add(0, 10);
        x.add(8, 20);
        x.add(16, 30);
        x.lose(1);
        x.setCurrent(24, 1);
        x.setFix(2, 1000, 2000);
        check.promise(18, "reckonedNorth");
        check.due("reckonedNorth(0)", x.reckonedNorth(0), 0);
        check.due("reckonedNorth(1)", x.reckonedNorth(1), 100000);
        check.due("reckonedNorth(2)", x.reckonedNorth(2), 1000);
        check.due("reckonedNorth(3)", x.reckonedNorth(3), 1000 - 300000);
        check.due("reckonedNorth(4)", x.reckonedNorth(4), NO_SUCH_MOMENT);
        check.due("reckonedNorth(-1)", x.reckonedNorth(-1), NO_SUCH_MOMENT);
        check.due("reckonedNorth(49)", x.reckonedNorth(49), NO_SUCH_MOMENT);
        check.due("reckonedNorth(least)", x.reckonedNorth(LEAST), NO_SUCH_MOMENT);
        check.due("reckonedNorth(greatest)", x.reckonedNorth(GREATEST), NO_SUCH_MOMENT);
        check.promise(19, "reckonedEast");
        check.due("reckonedEast(0)", x.reckonedEast(0), 0);
        check.due("reckonedEast(1)", x.reckonedEast(1), -10000);
        check.due("reckonedEast(2)", x.reckonedEast(2), 2000);
        check.due("reckonedEast(3)", x.reckonedEast(3), 2000 - 10000);
        check.due("reckonedEast(4)", x.reckonedEast(4), NO_SUCH_MOMENT);
        check.due("reckonedEast(-1)", x.reckonedEast(-1), NO_SUCH_MOMENT);
        check.due("reckonedEast(49)", x.reckonedEast(49), NO_SUCH_MOMENT);
        check.due("reckonedEast(least)", x.reckonedEast(LEAST), NO_SUCH_MOMENT);
        check.due("reckonedEast(greatest)", x.reckonedEast(GREATEST), NO_SUCH_MOMENT);
        x.removeFix(2);
        check.due("reckonedEast(3), lost peg", x.reckonedEast(3), -30000);
    }

    private static void corrected() {
        TraverseBoard x = new TraverseBoard();
        x.add(0, 0);
        x.add(0, 0);
        x.add(0, 0);
        x.add(0, 5);
        x.setFix(3, 10, -10);
        check.promise(20, "correctedNorth");
        check.due("correctedNorth(0)", x.correctedNorth(0), 0);
        check.due("correctedNorth(1), floor of 10/3", x.correctedNorth(1), 3);
        check.due("correctedNorth(2), floor of 20/3", x.correctedNorth(2), 6);
        check.due("correctedNorth(3)", x.correctedNorth(3), 10);
        check.due("correctedNorth(4), no fix after it", x.correctedNorth(4), 50010);
        check.due("correctedNorth(5)", x.correctedNorth(5), NO_SUCH_MOMENT);
        check.due("correctedNorth(-1)", x.correctedNorth(-1), NO_SUCH_MOMENT);
        check.due("correctedNorth(least)", x.correctedNorth(LEAST), NO_SUCH_MOMENT);
        check.due("correctedNorth(greatest)", x.correctedNorth(GREATEST), NO_SUCH_MOMENT);
        check.promise(21, "correctedEast");
        check.due("correctedEast(0)", x.correctedEast(0), 0);
        check.due("correctedEast(1), floor of -10/3", x.correctedEast(1), -4);
        check.due("correctedEast(2), floor of -20/3", x.correctedEast(2), -7);
        check.due("correctedEast(3)", x.correctedEast(3), -10);
        check.due("correctedEast(4), no fix after it", x.correctedEast(4), -10);
        check.due("correctedEast(5)", x.correctedEast(5), NO_SUCH_MOMENT);
        check.due("correctedEast(-1)", x.correctedEast(-1), NO_SUCH_MOMENT);
        check.due("correctedEast(least)", x.correctedEast(LEAST), NO_SUCH_MOMENT);
        check.due("correctedEast(greatest)", x.correctedEast(GREATEST), NO_SUCH_MOMENT);
        check.about("promises 20 and 21 (corrected between two fixes)");
        x.setFix(1, 100, 200);
        x.setFix(4, 60000, 50);
        positions(x, 0, 0, 0, 0, 0);
        positions(x, 1, 100, 200, 100, 200);
        positions(x, 2, 100, 200, 55, 95);
        positions(x, 3, 10, -10, 10, -10);
        positions(x, 4, 60000, 50, 60000, 50);
        x.removeFix(3);
        positions(x, 2, 100, 200, 100 + 3300, 200 - 50);
        positions(x, 3, 100, 200, 100 + 6600, 200 - 100);
        x.lose(3);
        positions(x, 2, 100, 200, 100 + 19966, 200 - 50);
        TraverseBoard wide = fullBoard();
        wide.setFix(24, 200000000, 200000000);
        wide.setFix(48, -200000000, -200000000);
        check.about("promises 20 and 21 (greatest coordinates)");
        check.due("correctedNorth(36)", wide.correctedNorth(36), 0);
        check.due("correctedEast(36)", wide.correctedEast(36), 0);
    }

    private static void distance() {
        check.promise(22, "distance");
        TraverseBoard x = new TraverseBoard();
        check.due("distance(0, 0)", x.distance(0, 0), 0);
        check.due("distance(0, 1)", x.distance(0, 1), NO_SUCH_MOMENT);
        x.add(0, 0);
        x.add(0, 0);
        int[][] triples = {{3, 4, 5}, {0, 0, 0}, {0, 1, 1}, {1, 1, 1}, {-1, 2, 2}, {2, -2, 2}, {-20, -21, 29},
            {200000000, 200000000, 282842712}, {-200000000, 200000000, 282842712}, {200000000, 1, 200000000},
            {119999999, -160000000, 199999999}, {120000000, 160000000, 200000000}, {0, -200000000, 200000000}};
        for (int[] triple : triples) {
            x.setFix(1, triple[0], triple[1]);
            check.due("distance(0, 1)", x.distance(0, 1), triple[2]);
            check.due("distance(1, 0)", x.distance(1, 0), triple[2]);
            check.due("distance(1, 1)", x.distance(1, 1), 0);
        }
        x.setFix(1, 200000000, 200000000);
        x.setFix(2, -200000000, -200000000);
        check.due("distance(1, 2)", x.distance(1, 2), 565685424);
        x.removeFix(1);
        check.due("distance(0, 1), corrected", x.distance(0, 1), 141421356);
        check.due("distance(0, 3)", x.distance(0, 3), NO_SUCH_MOMENT);
        check.due("distance(3, 0)", x.distance(3, 0), NO_SUCH_MOMENT);
        check.due("distance(-1, 0)", x.distance(-1, 0), NO_SUCH_MOMENT);
        check.due("distance(0, -1)", x.distance(0, -1), NO_SUCH_MOMENT);
        check.due("distance(least, greatest)", x.distance(LEAST, GREATEST), NO_SUCH_MOMENT);
        TraverseBoard far = new TraverseBoard();
        for (int peg = 0; peg < 48; peg++) {
            far.add(4, 200);
        }
        far.setCurrent(4, 50);
        far.setFix(1, -200000000, -200000000);
        far.setFix(2, 200000000, 200000000);
        check.due("distance(1, 48), the farthest of all", far.distance(1, 48), 680684322L);
    }

    private static void bearing() {
        check.promise(23, "bearing");
        TraverseBoard x = new TraverseBoard();
        check.due("bearing(0, 0)", x.bearing(0, 0), NOTHING);
        check.due("bearing(0, 1)", x.bearing(0, 1), NO_SUCH_MOMENT);
        x.add(0, 0);
        x.add(0, 0);
        check.due("bearing(0, 1), same position", x.bearing(0, 1), NOTHING);
        check.due("bearing(2, 2)", x.bearing(2, 2), NOTHING);
        for (int point = 0; point < 32; point++) {
            x.setFix(1, 7 * SIN[(point + 8) % 32], 7 * SIN[point]);
            check.due("bearing(0, 1)", x.bearing(0, 1), point);
            check.due("bearing(1, 0)", x.bearing(1, 0), (point + 16) % 32);
            x.setFix(1, 20000 * SIN[(point + 8) % 32], 20000 * SIN[point]);
            check.due("bearing(0, 1), far away", x.bearing(0, 1), point);
        }
        // With n : e = 1951 : 192 the points 0 and 1 come out alike, and so do their mirror images.
        x.setFix(1, 1951, 192);
        check.due("bearing(0, 1), a tie of 0 and 1", x.bearing(0, 1), 0);
        x.setFix(1, 1951, 193);
        check.due("bearing(0, 1), east of the tie", x.bearing(0, 1), 1);
        x.setFix(1, 1951, -192);
        check.due("bearing(0, 1), a tie of 0 and 31", x.bearing(0, 1), 0);
        x.setFix(1, 1951, -193);
        check.due("bearing(0, 1), west of the tie", x.bearing(0, 1), 31);
        x.setFix(1, 192, 1951);
        check.due("bearing(0, 1), a tie of 7 and 8", x.bearing(0, 1), 7);
        x.setFix(1, -192, -1951);
        check.due("bearing(0, 1), a tie of 23 and 24", x.bearing(0, 1), 23);
        x.setFix(1, 1, 0);
        check.due("bearing(0, 1)", x.bearing(0, 1), 0);
        x.setFix(1, 0, -1);
        check.due("bearing(0, 1)", x.bearing(0, 1), 24);
        check.due("bearing(0, 3)", x.bearing(0, 3), NO_SUCH_MOMENT);
        check.due("bearing(3, 3)", x.bearing(3, 3), NO_SUCH_MOMENT);
        check.due("bearing(-1, 0)", x.bearing(-1, 0), NO_SUCH_MOMENT);
        check.due("bearing(-1, -1)", x.bearing(-1, -1), NO_SUCH_MOMENT);
        check.due("bearing(least, greatest)", x.bearing(LEAST, GREATEST), NO_SUCH_MOMENT);
    }

    private static void findLost() {
        check.promise(24, "findLost");
        TraverseBoard x = new TraverseBoard();
        check.due("findLost(0)", x.findLost(0), NO_SUCH_PEG);
        x.add(0, 10);
        x.add(0, 10);
        x.add(0, 10);
        check.due("findLost(1), not lost, no fix", x.findLost(1), WRONG_STATE);
        x.lose(1);
        check.due("findLost(1), no fix after it", x.findLost(1), NOTHING);
        x.setFix(1, 0, 0);
        check.due("findLost(1), no fix after it", x.findLost(1), NOTHING);
        x.lose(2);
        check.due("findLost(1), no fix after it, another lost", x.findLost(1), NOTHING);
        x.setFix(3, 0, 0);
        check.due("findLost(1), another lost", x.findLost(1), WRONG_STATE);
        x.setFix(2, 0, 0);
        check.due("findLost(1), the other behind the fix", x.findLost(1), 0);
        check.due("findLost(2), the other before the fix", x.findLost(2), 0);
        x.removeFix(1);
        x.lose(0);
        check.due("findLost(1), another lost before it", x.findLost(1), WRONG_STATE);
        check.due("findLost(0), another lost behind it", x.findLost(0), WRONG_STATE);
        check.due("findLost(3)", x.findLost(3), NO_SUCH_PEG);
        check.due("findLost(-1)", x.findLost(-1), NO_SUCH_PEG);
        check.due("findLost(48)", x.findLost(48), NO_SUCH_PEG);
        check.due("findLost(least)", x.findLost(LEAST), NO_SUCH_PEG);
        check.due("findLost(greatest)", x.findLost(GREATEST), NO_SUCH_PEG);
        check.due("pointOf(0), lost still", x.pointOf(0), WRONG_STATE);
        everyPegIsFound();
        tiesOfLostPegs();
    }

    private static void everyPegIsFound() {
        for (int point = 0; point < 32; point++) {
            for (int speed : new int[] {1, 2, 100, 199, 200}) {
                int leeway = (point + speed) % 5 - 2;
                TraverseBoard x = new TraverseBoard();
                x.add(5, 50);
                x.add(point, speed);
                x.add(20, 30);
                x.setLeeway(1, leeway);
                x.setCurrent(13, 17);
                long north = x.reckonedNorth(3);
                long east = x.reckonedEast(3);
                x.lose(1);
                x.setFix(3, (int) north, (int) east);
                check.due("findLost(1), point " + point + ", speed " + speed, x.findLost(1), 1000L * point + speed);
                long legNorth = 50L * SIN[13] + 17L * SIN[21];
                long legEast = 50L * SIN[5] + 17L * SIN[13];
                x.setFix(1, (int) legNorth + 6, (int) legEast + 7);
                x.setFix(3, (int) north + 6, (int) east + 7);
                check.due("findLost(1) from a fix", x.findLost(1), 1000L * point + speed);
            }
        }
    }

    private static void tiesOfLostPegs() {
        TraverseBoard x = new TraverseBoard();
        x.add(9, 9);
        x.lose(0);
        x.setFix(1, 0, 0);
        check.due("findLost(0), every point with speed 0", x.findLost(0), 0);
        x.setFix(1, 5000, 0);
        check.due("findLost(0), speeds 0 and 1 towards 0", x.findLost(0), 0);
        x.setFix(1, 5001, 0);
        check.due("findLost(0), speed 1 is nearer", x.findLost(0), 1);
        x.setFix(1, 15000, 0);
        check.due("findLost(0), speeds 1 and 2 towards 0", x.findLost(0), 1);
        x.setFix(1, 11759, 11759);
        check.due("findLost(0), speeds 1 and 2 near 4", x.findLost(0), 4002);
        tieOfTwoPoints(x, 19808, 1951, 0, 1);
        tieOfTwoPoints(x, 11383, 13871, 4, 5);
        tieOfTwoPoints(x, -16901, 13871, 12, 13);
        tieOfTwoPoints(x, -2335, -23710, 23, 24);
        tieOfTwoPoints(x, 19808, -1951, 31, 0);
        x.setLeeway(0, 2);
        x.setFix(1, 200000000, 0);
        check.due("findLost(0), towards 0 with leeway 2", x.findLost(0), 30200);
        x.setLeeway(0, -2);
        check.due("findLost(0), towards 0 with leeway -2", x.findLost(0), 2200);
        x.setFix(1, -200000000, -200000000);
        check.due("findLost(0), towards 20 with leeway -2", x.findLost(0), 22200);
    }

    /** A fix as far from the peg of speed 2 towards one point as towards the other one. */
    private static void tieOfTwoPoints(TraverseBoard x, int north, int east, int one, int other) {
        x.setFix(1, north, east);
        for (int leeway = -2; leeway <= 2; leeway++) {
            x.setLeeway(0, leeway);
            int lowest = Math.min((one - leeway + 32) % 32, (other - leeway + 32) % 32);
            check.due("findLost(0), a tie of " + one + " and " + other, x.findLost(0), 1000L * lowest + 2);
        }
        x.setLeeway(0, 0);
    }

    private static void digest() {
        check.promise(25, "digest");
        TraverseBoard x = new TraverseBoard();
        check.due("digest() of a new object", x.digest(), hash(0, 0, 0, 1, 0, 0, 0, 0, 0, NOTHING, 0));
        x.append('N');
        x.append('~');
        check.due("digest() with a buffer", x.digest(), hash(0, 0, 0, 1, 0, 0, 0, 0, 0, NOTHING, 2, 78, 126));
        x.clearBuffer();
        x.add(8, 10);
        x.setLeeway(0, -1);
        x.setCurrent(24, 2);
        long east = 98080 - 20000;
        check.due("digest() of a peg", x.digest(), hash(1, 8, 10, -1, 24, 2, 1, 0, 0, 0, 0,
            0, 19510, east, 19510, east, 80480, 7, 0));
        x.lose(0);
        check.due("digest() of a lost peg", x.digest(), hash(1, WRONG_STATE, WRONG_STATE, -1, 24, 2, 1, 0, 0, 0, 0,
            0, 0, -20000, 0, -20000, 20000, 24, NOTHING, 0));
        x.add(0, 1);
        x.lose(1);
        x.setFix(1, 0, 0);
        check.due("digest() of the first of two lost pegs", x.digest(), hash(2, WRONG_STATE, WRONG_STATE, -1,
            WRONG_STATE, WRONG_STATE, 0, 24, 2, 1, 0, 0, 0, 0, 1, 0, 0, 0, 0, 0, 0, -20000, 0, -20000,
            20000, 24, 9002, 0));
        x.digest();
        check.due("pointOf(0), a digest changes nothing", x.pointOf(0), WRONG_STATE);
        x.setFix(2, 10, 20);
        check.due("digest() of corrected positions", x.digest(), hash(2, WRONG_STATE, WRONG_STATE, -1,
            WRONG_STATE, WRONG_STATE, 0, 24, 2, 1, 0, 0, 0, 0, 1, 0, 0, 0, 0, 1, 10, 20, 10, 20,
            22, 6, 9002, 0));
        TraverseBoard shorter = new TraverseBoard();
        shorter.add(0, 1);
        shorter.lose(0);
        shorter.removeLast();
        check.due("digest() without the lost peg", shorter.digest(), hash(0, 0, 0, 1, 0, 0, 0, 0, 0, NOTHING, 0));
    }

    private static long hash(long... values) {
        long hash = 1811;
        for (long value : values) {
            hash = 31 * hash + value;
        }
        return hash;
    }

    private static void positions(TraverseBoard x, int moment, long reckonedNorth, long reckonedEast,
            long correctedNorth, long correctedEast) {
        check.due("reckonedNorth(" + moment + ")", x.reckonedNorth(moment), reckonedNorth);
        check.due("reckonedEast(" + moment + ")", x.reckonedEast(moment), reckonedEast);
        check.due("correctedNorth(" + moment + ")", x.correctedNorth(moment), correctedNorth);
        check.due("correctedEast(" + moment + ")", x.correctedEast(moment), correctedEast);
    }

    /** Appends the text to a buffer that has been empty or holds the text before it. */
    private static void write(TraverseBoard x, String text) {
        long length = 0;
        for (int at = 0; at < text.length(); at++) {
            long answer = x.append(text.charAt(at));
            check.holds("append of \"" + text + "\" answered " + answer, answer > length);
            length = answer;
        }
    }

    private static TraverseBoard fullBoard() {
        TraverseBoard x = new TraverseBoard();
        for (int peg = 0; peg < 48; peg++) {
            x.add(0, 0);
        }
        return x;
    }
}
