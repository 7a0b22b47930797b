import java.util.function.Supplier;
import java.util.function.ToLongFunction;

/** The sentences of the document that no other test quotes, in the document's order, and its four examples call by call. */
final class SentencesTest extends Boundaries {
    private static final String NAMES = "N, NbE, NNE, NEbN, NE, NEbE, ENE, EbN, E, EbS, ESE, SEbE, SE, SEbS, SSE, SbE, "
        + "S, SbW, SSW, SWbS, SW, SWbW, WSW, WbS, W, WbN, WNW, NWbW, NW, NWbN, NNW, NbW";
    private static final int[] FIRST_SINES = {0, 1951, 3827, 5556, 7071, 8315, 9239, 9808, 10000};

    public static void main(String[] args) {
        begin("SentencesTest");
        positionsFollow();
        compassTurnsClockwise();
        compassNames();
        sinesOfFirstPoints();
        sinesOfNextPoints();
        sinesOfLastPoints();
        cosines();
        unitOfCoordinates();
        upTo48Pegs();
        pegHasThreeValues();
        pegCanBeLost();
        currentOfAllPegs();
        momentAfterPegs();
        momentNumbers();
        oneFixEach();
        reckonedIsFixAndLegs();
        correctedBothCoordinates();
        refusalsChangeNothing();
        example1();
        example2();
        example3();
        example4();
        outOfRange();
        noSuchPegOrMoment();
        fullPegsOrBuffer();
        wrongStateAndNothing();
        pegIsWritten();
        lostIsFoundAgain();
        loseNoSuchPeg();
        currentIsSet();
        pointIsReturned();
        speedIsReturned();
        sumIsReturned();
        fixIsSet();
        coordinatesAreReturned();
        distanceFromAndTo();
        bearingFromAndTo();
        bearingIsNearest();
        lostIsFoundByFix();
        findLostOfPegNumber();
        hashStarts();
        hashOfPegCount();
        hashOfPegs();
        hashOfCurrent();
        hashOfWay();
        end();
    }

    // ---- what it is, description

    private static void positionsFollow() {
        description("positions follow from the pegs, a current, leeway and fixes");
        TraverseBoard x = pegs(2, 8, 100);
        place(x, 2, 0, 2000000);
        x.setCurrent(0, 10);
        place(x, 2, 200000, 2000000);
        x.setLeeway(1, 2);
        place(x, 2, 200000 - 382700, 1000000 + 923900);
        x.setFix(1, 7, 1000007);
        place(x, 2, 100007 - 382700, 1000007 + 923900);
        x.setFix(2, 1, 2);
        place(x, 2, 1, 2);
    }

    private static void compassTurnsClockwise() {
        description("There are 32 compass points, numbered 0 to 31 clockwise from north");
        place(pegs(1, 0, 1), 1, 10000, 0);
        for (int point = 0; point < 32; point++) {
            int next = (point + 1) % 32;
            long turn = north(point) * east(next) - east(point) * north(next);
            due("a turn clockwise from " + point + " to " + next, turn > 0 ? 1 : 0, 1);
            long ahead = north(point) * north(next) + east(point) * east(next);
            due("a turn of less than a quarter from " + point + " to " + next, ahead > 0 ? 1 : 0, 1);
        }
        refused("add(32, 1)", Boundaries::fresh, x -> x.add(32, 1), OUT_OF_RANGE);
        refused("add(-1, 1)", Boundaries::fresh, x -> x.add(-1, 1), OUT_OF_RANGE);
    }

    private static void compassNames() {
        description("Their names, in this order, are " + NAMES);
        String[] names = NAMES.split(", ");
        due("the number of names", names.length, 32);
        for (int point = 0; point < 32; point++) {
            TraverseBoard x = written(names[point] + " 1");
            due("addFromBuffer() of " + names[point] + " 1", x.addFromBuffer(), 0);
            due("pointOf(0) of " + names[point], x.pointOf(0), point);
        }
    }

    private static void sinesOfFirstPoints() {
        description("For p from 0 to 8 let sin(p) be 0, 1951, 3827, 5556, 7071, 8315, 9239, 9808, 10000");
        for (int point = 0; point <= 8; point++) {
            due("sin(" + point + ")", east(point), FIRST_SINES[point]);
        }
    }

    private static void sinesOfNextPoints() {
        description("For p from 9 to 16 let sin(p) be sin(16 - p)");
        for (int point = 9; point <= 16; point++) {
            due("sin(" + point + ")", east(point), FIRST_SINES[16 - point]);
        }
    }

    private static void sinesOfLastPoints() {
        description("For p from 17 to 31 let sin(p) be -sin(p - 16)");
        for (int point = 17; point <= 31; point++) {
            due("sin(" + point + ")", east(point), -east(point - 16));
            due("sin(" + point + ") is below 0", east(point) < 0 ? 1 : 0, 1);
        }
    }

    private static void cosines() {
        description("Let cos(p) be sin of p + 8 (modulo 32)");
        for (int point = 0; point < 32; point++) {
            due("cos(" + point + ")", north(point), east((point + 8) % 32));
        }
    }

    private static void unitOfCoordinates() {
        description("All coordinates are integers in ten-thousandths of a unit");
        TraverseBoard x = pegs(1, 8, 1);
        due("correctedEast(1), one unit", x.correctedEast(1), 10000);
        due("distance(0, 1), one unit", x.distance(0, 1), 10000);
        x.setFix(1, 0, 1);
        due("correctedEast(1), a ten-thousandth", x.correctedEast(1), 1);
        due("distance(0, 1), a ten-thousandth", x.distance(0, 1), 1);
    }

    private static void upTo48Pegs() {
        description("There are up to 48 pegs, numbered from 0");
        TraverseBoard x = fresh();
        for (int peg = 0; peg < 48; peg++) {
            due("add(" + peg % 32 + ", " + peg + ")", x.add(peg % 32, peg), peg);
        }
        due("add(0, 0) of one too many", x.add(0, 0), FULL);
        for (int peg = 0; peg < 48; peg++) {
            due("pointOf(" + peg + ")", x.pointOf(peg), peg % 32);
            due("speedOf(" + peg + ")", x.speedOf(peg), peg);
        }
    }

    private static void pegHasThreeValues() {
        description("A peg has a point (0 to 31), a speed (0 to 200) and a leeway (-2 to 2)");
        TraverseBoard x = pegs(48, 0, 0);
        for (int peg = 0; peg < 48; peg++) {
            due("replace(" + peg + ", ..)", x.replace(peg, 31 - peg % 32, 200 - peg), 0);
            due("setLeeway(" + peg + ", ..)", x.setLeeway(peg, 2 - peg % 5), 0);
        }
        for (int peg = 0; peg < 48; peg++) {
            due("pointOf(" + peg + ")", x.pointOf(peg), 31 - peg % 32);
            due("speedOf(" + peg + ")", x.speedOf(peg), 200 - peg);
            due("setLeeway(" + peg + ", 0)", x.setLeeway(peg, 0), 2 - peg % 5);
        }
    }

    private static void pegCanBeLost() {
        description("A peg can be lost; then its point and its speed are unknown");
        TraverseBoard x = pegs(3, 8, 100);
        due("lose(1)", x.lose(1), 1);
        due("pointOf(1)", x.pointOf(1), WRONG_STATE);
        due("speedOf(1)", x.speedOf(1), WRONG_STATE);
        due("speedTowards(8)", x.speedTowards(8), 200);
        due("pegCount()", x.pegCount(), 3);
        place(x, 3, 0, 2000000);
    }

    private static void currentOfAllPegs() {
        description("describe the current, which is the same for all pegs");
        TraverseBoard x = pegs(1, 0, 0);
        x.setCurrent(8, 20);
        x.add(0, 0);
        x.lose(1);
        x.setCurrent(24, 7);
        x.add(0, 0);
        place(x, 1, 0, -70000);
        place(x, 2, 0, -140000);
        place(x, 3, 0, -210000);
    }

    private static void momentAfterPegs() {
        description("Moment k is the moment after the first k pegs");
        TraverseBoard x = fresh();
        for (int peg = 0; peg < 48; peg++) {
            x.add(0, 1 + peg);
        }
        for (int moment = 0; moment <= 48; moment++) {
            place(x, moment, moment * (moment + 1) / 2 * 10000L, 0);
        }
    }

    private static void momentNumbers() {
        description("moments are numbered from 0 to the number of pegs");
        TraverseBoard x = fresh();
        for (int count = 0; count <= 48; count++) {
            due("reckonedNorth(" + count + "), " + count + " pegs", x.reckonedNorth(count), 0);
            due("reckonedNorth(" + (count + 1) + "), " + count + " pegs", x.reckonedNorth(count + 1), NO_SUCH_MOMENT);
            x.add(0, 0);
        }
        due("reckonedNorth(-1)", x.reckonedNorth(-1), NO_SUCH_MOMENT);
    }

    private static void oneFixEach() {
        description("Every other moment can have one fix, a pair of coordinates");
        TraverseBoard x = pegs(48, 8, 100);
        for (int moment = 1; moment <= 48; moment++) {
            due("setFix(" + moment + ", ..)", x.setFix(moment, 7, 7), moment + 1);
        }
        for (int moment = 1; moment <= 48; moment++) {
            due("setFix(" + moment + ", ..) again", x.setFix(moment, 1000 - moment, moment), 49);
        }
        for (int moment = 1; moment <= 48; moment++) {
            place(x, moment, 1000 - moment, moment);
        }
    }

    private static void reckonedIsFixAndLegs() {
        description("The reckoned position at k is the fix at a plus the legs of the pegs a to k - 1");
        TraverseBoard x = pegs(1, 8, 10);
        x.add(0, 20);
        x.add(15, 30);
        x.add(24, 40);
        x.setLeeway(2, 1);
        x.lose(3);
        x.setCurrent(4, 1);
        place(x, 1, 7071, 107071);
        place(x, 2, 214142, 114142);
        place(x, 3, -78787, 121213);
        place(x, 4, -71716, 128284);
        x.setFix(2, -5, 6);
        due("reckonedNorth(1), before the fix", x.reckonedNorth(1), 7071);
        due("reckonedEast(1), before the fix", x.reckonedEast(1), 107071);
        place(x, 2, -5, 6);
        place(x, 3, -292934, 7077);
        place(x, 4, -285863, 14148);
    }

    private static void correctedBothCoordinates() {
        description("then each coordinate of the corrected position is the reckoned coordinate plus floorDiv(error * (k - a), b - a)");
        TraverseBoard x = pegs(4, 8, 10);
        x.setFix(1, 100, 99990);
        x.setFix(4, 93, 400000);
        positions(x, 2, 100, 199990, 97, 199993);
        positions(x, 3, 100, 299990, 95, 299996);
        x.setFix(4, 107, 399980);
        positions(x, 2, 100, 199990, 102, 199986);
        positions(x, 3, 100, 299990, 104, 299983);
    }

    /** One refused call for each error code that each method has. */
    private static void refusalsChangeNothing() {
        description("A method that returns an error code changes nothing");
        Supplier<TraverseBoard> some = Boundaries::sailed;
        Supplier<TraverseBoard> most = Boundaries::full;
        refusedAs(OUT_OF_RANGE, "append(31)", some, x -> x.append(31));
        refusedAs(FULL, "append(78)", most, x -> x.append('N'));
        refusedAs(INVALID_PEG, "addFromBuffer()", most, x -> x.addFromBuffer());
        refusedAs(FULL, "addFromBuffer()", () -> fullAndWritten("W 9"), x -> x.addFromBuffer());
        refusedAs(OUT_OF_RANGE, "add(9, 201)", some, x -> x.add(9, 201));
        refusedAs(FULL, "add(9, 9)", most, x -> x.add(9, 9));
        refusedAs(NO_SUCH_PEG, "replace(5, 9, 9)", some, x -> x.replace(5, 9, 9));
        refusedAs(OUT_OF_RANGE, "replace(2, 32, 9)", some, x -> x.replace(2, 32, 9));
        refusedAs(NOTHING, "removeLast()", () -> written("W 9"), x -> x.removeLast());
        refusedAs(NO_SUCH_PEG, "lose(5)", some, x -> x.lose(5));
        refusedAs(WRONG_STATE, "lose(2)", some, x -> x.lose(2));
        refusedAs(NO_SUCH_PEG, "setLeeway(5, 1)", some, x -> x.setLeeway(5, 1));
        refusedAs(OUT_OF_RANGE, "setLeeway(0, 3)", some, x -> x.setLeeway(0, 3));
        refusedAs(OUT_OF_RANGE, "setCurrent(9, 51)", some, x -> x.setCurrent(9, 51));
        refusedAs(NO_SUCH_PEG, "pointOf(5)", some, x -> x.pointOf(5));
        refusedAs(WRONG_STATE, "pointOf(2)", some, x -> x.pointOf(2));
        refusedAs(NO_SUCH_PEG, "speedOf(5)", some, x -> x.speedOf(5));
        refusedAs(WRONG_STATE, "speedOf(2)", some, x -> x.speedOf(2));
        refusedAs(OUT_OF_RANGE, "speedTowards(32)", some, x -> x.speedTowards(32));
        refusedAs(NO_SUCH_MOMENT, "setFix(6, 1, 2)", some, x -> x.setFix(6, 1, 2));
        refusedAs(OUT_OF_RANGE, "setFix(4, 1, 200000001)", some, x -> x.setFix(4, 1, 200000001));
        refusedAs(NO_SUCH_MOMENT, "removeFix(0)", some, x -> x.removeFix(0));
        refusedAs(NOTHING, "removeFix(3)", some, x -> x.removeFix(3));
        refusedAs(NO_SUCH_MOMENT, "reckonedNorth(6)", some, x -> x.reckonedNorth(6));
        refusedAs(NO_SUCH_MOMENT, "reckonedEast(6)", some, x -> x.reckonedEast(6));
        refusedAs(NO_SUCH_MOMENT, "correctedNorth(6)", some, x -> x.correctedNorth(6));
        refusedAs(NO_SUCH_MOMENT, "correctedEast(6)", some, x -> x.correctedEast(6));
        refusedAs(NO_SUCH_MOMENT, "distance(6, 0)", some, x -> x.distance(6, 0));
        refusedAs(NO_SUCH_MOMENT, "bearing(0, 6)", some, x -> x.bearing(0, 6));
        refusedAs(NOTHING, "bearing(3, 3)", some, x -> x.bearing(3, 3));
        refusedAs(NO_SUCH_PEG, "findLost(5)", some, x -> x.findLost(5));
        refusedAs(WRONG_STATE, "findLost(0)", some, x -> x.findLost(0));
        refusedAs(WRONG_STATE, "findLost(30)", most, x -> x.findLost(30));
        refusedAs(NOTHING, "findLost(0)", () -> lost(9, 9), x -> x.findLost(0));
    }

    private static void example1() {
        description("1. Two pegs and a fix, and the corrected positions between");
        TraverseBoard x = new TraverseBoard();
        due("add(8, 100)", x.add(8, 100), 0);
        due("add(0, 50)", x.add(0, 50), 1);
        due("setFix(2, 500000, 1000000)", x.setFix(2, 500000, 1000000), 2);
        due("correctedNorth(1)", x.correctedNorth(1), 0);
        due("correctedEast(1)", x.correctedEast(1), 1000000);
        due("reckonedEast(1)", x.reckonedEast(1), 1000000);
        due("setFix(2, 600000, 980000)", x.setFix(2, 600000, 980000), 2);
        due("correctedNorth(1)", x.correctedNorth(1), 50000);
        due("correctedEast(1)", x.correctedEast(1), 990000);
        due("distance(0, 2)", x.distance(0, 2), 1149086);
        due("bearing(0, 2)", x.bearing(0, 2), 5);
    }

    private static void example2() {
        description("2. The peg NEbN 20 from the buffer, with leeway");
        TraverseBoard x = new TraverseBoard();
        due("append(78)", x.append(78), 1);
        due("append(69)", x.append(69), 2);
        due("append(98)", x.append(98), 3);
        due("append(78)", x.append(78), 4);
        due("append(32)", x.append(32), 5);
        due("append(50)", x.append(50), 6);
        due("append(48)", x.append(48), 7);
        due("errorPosition()", x.errorPosition(), 7);
        due("addFromBuffer()", x.addFromBuffer(), 0);
        due("pointOf(0)", x.pointOf(0), 3);
        due("speedOf(0)", x.speedOf(0), 20);
        due("setLeeway(0, 1)", x.setLeeway(0, 1), 0);
        due("reckonedNorth(1)", x.reckonedNorth(1), 141420);
    }

    private static void example3() {
        description("3. A lost peg that is found by a fix");
        TraverseBoard x = new TraverseBoard();
        due("add(4, 100)", x.add(4, 100), 0);
        due("add(4, 100)", x.add(4, 100), 1);
        due("lose(1)", x.lose(1), 1);
        due("findLost(1)", x.findLost(1), -9000000000000000007L);
        due("setFix(2, 1414200, 1414200)", x.setFix(2, 1414200, 1414200), 2);
        due("findLost(1)", x.findLost(1), 4100);
        due("findLost(0)", x.findLost(0), -9000000000000000006L);
        due("replace(1, 4, 100)", x.replace(1, 4, 100), 1);
        due("findLost(1)", x.findLost(1), -9000000000000000006L);
        due("pointOf(2)", x.pointOf(2), -9000000000000000002L);
    }

    private static void example4() {
        description("4. The texts EbE and S 201, which are no pegs");
        TraverseBoard x = new TraverseBoard();
        due("append(69)", x.append(69), 1);
        due("append(98)", x.append(98), 2);
        due("append(69)", x.append(69), 3);
        due("errorPosition()", x.errorPosition(), 2);
        due("clearBuffer()", x.clearBuffer(), 3);
        due("append(83)", x.append(83), 1);
        due("append(32)", x.append(32), 2);
        due("append(50)", x.append(50), 3);
        due("append(48)", x.append(48), 4);
        due("append(49)", x.append(49), 5);
        due("errorPosition()", x.errorPosition(), 4);
        due("addFromBuffer()", x.addFromBuffer(), -9000000000000000005L);
        due("removeLast()", x.removeLast(), -9000000000000000007L);
    }

    // ---- the constants

    private static void outOfRange() {
        description("OUT_OF_RANGE = -9000000000000000001L: A value is out of range");
        due("append(127)", fresh().append(127), TraverseBoard.OUT_OF_RANGE);
        due("add(32, 0)", fresh().add(32, 0), TraverseBoard.OUT_OF_RANGE);
        due("setCurrent(0, 51)", fresh().setCurrent(0, 51), TraverseBoard.OUT_OF_RANGE);
        due("the constant", TraverseBoard.OUT_OF_RANGE, -9000000000000000001L);
    }

    private static void noSuchPegOrMoment() {
        description("NO_SUCH_PEG = -9000000000000000002L: A peg does not exist");
        due("lose(0)", fresh().lose(0), TraverseBoard.NO_SUCH_PEG);
        due("the constant", TraverseBoard.NO_SUCH_PEG, -9000000000000000002L);
        description("NO_SUCH_MOMENT = -9000000000000000003L: A moment does not exist");
        due("reckonedEast(1)", fresh().reckonedEast(1), TraverseBoard.NO_SUCH_MOMENT);
        due("the constant", TraverseBoard.NO_SUCH_MOMENT, -9000000000000000003L);
    }

    private static void fullPegsOrBuffer() {
        description("FULL = -9000000000000000004L: There are 48 pegs, or the buffer is full");
        due("add(0, 0)", pegs(48, 0, 0).add(0, 0), TraverseBoard.FULL);
        due("append(78)", written("NNNNNNNNNNNN").append('N'), TraverseBoard.FULL);
        due("the constant", TraverseBoard.FULL, -9000000000000000004L);
        description("INVALID_PEG = -9000000000000000005L: The buffer does not hold a complete peg");
        due("addFromBuffer()", written("NE ").addFromBuffer(), TraverseBoard.INVALID_PEG);
        due("the constant", TraverseBoard.INVALID_PEG, -9000000000000000005L);
    }

    private static void wrongStateAndNothing() {
        description("WRONG_STATE = -9000000000000000006L: The peg is lost, or the peg is not lost, as the method says");
        due("speedOf(0), lost", lost(9, 9).speedOf(0), TraverseBoard.WRONG_STATE);
        due("findLost(0), not lost", pegs(1, 9, 9).findLost(0), TraverseBoard.WRONG_STATE);
        due("the constant", TraverseBoard.WRONG_STATE, -9000000000000000006L);
        description("NOTHING = -9000000000000000007L: There is nothing to return");
        due("bearing(0, 0)", fresh().bearing(0, 0), TraverseBoard.NOTHING);
        due("the constant", TraverseBoard.NOTHING, -9000000000000000007L);
    }

    // ---- promises 4 to 16

    private static void pegIsWritten() {
        promise(4, "A peg is written as the name of a point, a blank, and the speed as a decimal number without leading zeros (zero is the single digit 0)");
        pegOfText("S 0", 16, 0);
        pegOfText("S 7", 16, 7);
        pegOfText("SbW 10", 17, 10);
        pegOfText("NEbN 200", 3, 200);
        for (String text : new String[] {"S 00", "S 07", "S 000", "S 010", "S 0200", "S", "S ", "S7", "7", "7 S", "S 7 "}) {
            due("addFromBuffer() of \"" + text + "\"", written(text).addFromBuffer(), INVALID_PEG);
        }
    }

    private static void pegOfText(String text, int point, int speed) {
        TraverseBoard x = written(text);
        due("errorPosition() of " + text, x.errorPosition(), text.length());
        due("addFromBuffer() of " + text, x.addFromBuffer(), 0);
        due("pointOf(0) of " + text, x.pointOf(0), point);
        due("speedOf(0) of " + text, x.speedOf(0), speed);
    }

    private static void lostIsFoundAgain() {
        promise(7, "Replaces the point and the speed of a peg; a lost peg is found again");
        TraverseBoard x = pegs(3, 8, 100);
        x.lose(0);
        x.lose(1);
        due("replace(1, 24, 30)", x.replace(1, 24, 30), 1);
        due("pointOf(1)", x.pointOf(1), 24);
        due("speedOf(1)", x.speedOf(1), 30);
        due("speedTowards(24)", x.speedTowards(24), 30);
        due("speedTowards(8)", x.speedTowards(8), 100);
        due("pointOf(0), lost still", x.pointOf(0), WRONG_STATE);
        place(x, 3, 0, 700000);
        due("lose(1) once more", x.lose(1), 2);
    }

    private static void loseNoSuchPeg() {
        promise(9, "NO_SUCH_PEG; WRONG_STATE if the peg is lost already");
        TraverseBoard x = pegs(2, 8, 100);
        due("lose(2)", x.lose(2), NO_SUCH_PEG);
        due("lose(-1)", x.lose(-1), NO_SUCH_PEG);
        due("lose(1)", x.lose(1), 1);
        due("lose(1) again", x.lose(1), WRONG_STATE);
        due("removeLast()", x.removeLast(), 1);
        due("lose(1), removed", x.lose(1), NO_SUCH_PEG);
    }

    private static void currentIsSet() {
        promise(11, "Sets the current");
        TraverseBoard x = pegs(2, 8, 10);
        due("setCurrent(16, 5)", x.setCurrent(16, 5), 0);
        place(x, 2, -100000, 200000);
        due("setCurrent(24, 9)", x.setCurrent(24, 9), 5);
        place(x, 2, 0, 20000);
        due("setCurrent(0, 0)", x.setCurrent(0, 0), 9);
        place(x, 2, 0, 200000);
    }

    private static void pointIsReturned() {
        promise(13, "Returns the point of a peg", "point + leeway is another matter");
        TraverseBoard x = pegs(1, 31, 5);
        x.add(0, 6);
        x.setLeeway(0, 2);
        x.setLeeway(1, -2);
        x.setCurrent(9, 9);
        due("pointOf(0)", x.pointOf(0), 31);
        due("pointOf(1)", x.pointOf(1), 0);
        x.replace(1, 17, 6);
        due("pointOf(1), replaced", x.pointOf(1), 17);
        promise(13, "Returns the point; NO_SUCH_PEG; WRONG_STATE if the peg is lost");
        due("pointOf(2)", x.pointOf(2), NO_SUCH_PEG);
        x.lose(1);
        due("pointOf(1), lost", x.pointOf(1), WRONG_STATE);
    }

    private static void speedIsReturned() {
        promise(14, "Returns the speed of a peg", "the drift is another matter");
        TraverseBoard x = pegs(1, 31, 200);
        x.add(31, 0);
        x.setCurrent(31, 50);
        due("speedOf(0)", x.speedOf(0), 200);
        due("speedOf(1)", x.speedOf(1), 0);
        x.replace(1, 31, 71);
        due("speedOf(1), replaced", x.speedOf(1), 71);
        promise(14, "Returns the speed; NO_SUCH_PEG; WRONG_STATE if the peg is lost");
        due("speedOf(2)", x.speedOf(2), NO_SUCH_PEG);
        x.lose(1);
        due("speedOf(1), lost", x.speedOf(1), WRONG_STATE);
    }

    private static void sumIsReturned() {
        promise(15, "Returns the sum; OUT_OF_RANGE if point is out of range");
        TraverseBoard x = fresh();
        for (int peg = 0; peg < 48; peg++) {
            x.add(peg % 32, 1 << peg / 32);
        }
        for (int point = 0; point < 32; point++) {
            due("speedTowards(" + point + ")", x.speedTowards(point), point < 16 ? 3 : 1);
        }
        due("speedTowards(32)", x.speedTowards(32), OUT_OF_RANGE);
        due("speedTowards(-1)", x.speedTowards(-1), OUT_OF_RANGE);
    }

    private static void fixIsSet() {
        promise(16, "Sets the fix of a moment");
        TraverseBoard x = pegs(3, 8, 10);
        due("setFix(2, -70, 80)", x.setFix(2, -70, 80), 2);
        place(x, 0, 0, 0);
        place(x, 2, -70, 80);
        place(x, 3, -70, 100080);
        due("removeFix(1)", x.removeFix(1), NOTHING);
        due("removeFix(3)", x.removeFix(3), NOTHING);
        due("removeFix(2)", x.removeFix(2), 1);
        place(x, 3, 0, 300000);
    }

    // ---- promises 18 to 24

    private static void coordinatesAreReturned() {
        TraverseBoard x = pegs(2, 2, 3);
        x.setFix(2, 1000, -1000);
        promise(18, "Returns the north coordinate of the reckoned position");
        due("reckonedNorth(1)", x.reckonedNorth(1), 27717);
        promise(19, "Returns the east coordinate of the reckoned position");
        due("reckonedEast(1)", x.reckonedEast(1), 11481);
        // The errors are 1000 - 55434 and -1000 - 22962; half of each belongs to moment 1.
        promise(20, "Returns the north coordinate of the corrected position");
        due("correctedNorth(1)", x.correctedNorth(1), 500);
        promise(21, "Returns the east coordinate of the corrected position");
        due("correctedEast(1)", x.correctedEast(1), -500);
        promise(18, "Returns the coordinate; NO_SUCH_MOMENT");
        due("reckonedNorth(3)", x.reckonedNorth(3), NO_SUCH_MOMENT);
        promise(19, "Returns the coordinate; NO_SUCH_MOMENT");
        due("reckonedEast(3)", x.reckonedEast(3), NO_SUCH_MOMENT);
        promise(20, "Returns the coordinate; NO_SUCH_MOMENT");
        due("correctedNorth(3)", x.correctedNorth(3), NO_SUCH_MOMENT);
        promise(21, "Returns the coordinate; NO_SUCH_MOMENT");
        due("correctedEast(3)", x.correctedEast(3), NO_SUCH_MOMENT);
    }

    private static void distanceFromAndTo() {
        promise(22, "from: a moment");
        TraverseBoard x = pegs(3, 8, 0);
        x.setFix(1, 3, 4);
        x.setFix(3, 3, 44);
        due("distance(0, 1)", x.distance(0, 1), 5);
        due("distance(1, 0)", x.distance(1, 0), 5);
        due("distance(1, 2), a corrected position", x.distance(1, 2), 20);
        due("distance(2, 3), a corrected position", x.distance(2, 3), 20);
        due("distance(3, 1)", x.distance(3, 1), 40);
        due("distance(0, 3)", x.distance(0, 3), 44);
    }

    private static void bearingFromAndTo() {
        promise(23, "from: a moment");
        TraverseBoard x = pegs(3, 0, 10);
        x.setFix(1, 0, 500);
        x.setFix(3, 0, -500);
        due("bearing(0, 1)", x.bearing(0, 1), 8);
        due("bearing(1, 3)", x.bearing(1, 3), 24);
        due("bearing(3, 0)", x.bearing(3, 0), 8);
        promise(23, "to: a moment");
        due("bearing(1, 2), a corrected position", x.bearing(1, 2), 24);
        due("bearing(2, 3), a corrected position", x.bearing(2, 3), 24);
        due("bearing(0, 2), a corrected position at (0, 0)", x.bearing(0, 2), NOTHING);
        due("bearing(1, 0)", x.bearing(1, 0), 24);
        due("bearing(0, 3)", x.bearing(0, 3), 24);
    }

    /** A hundredth of a point off the middle between two points is far more than the components are rounded by. */
    private static void bearingIsNearest() {
        promise(23, "Returns the point that is nearest to the direction from one corrected position to another one");
        TraverseBoard x = pegs(1, 0, 0);
        for (int point = 0; point < 32; point++) {
            for (int hundredths : new int[] {-49, -20, 0, 20, 49}) {
                double angle = (point + hundredths / 100.0) * Math.PI / 16;
                x.setFix(1, (int) Math.round(1e8 * Math.cos(angle)), (int) Math.round(1e8 * Math.sin(angle)));
                due("bearing(0, 1), " + hundredths + " hundredths off " + point, x.bearing(0, 1), point);
            }
        }
    }

    private static void lostIsFoundByFix() {
        promise(24, "Finds the point and the speed that a lost peg probably had");
        for (int peg = 0; peg < 48; peg++) {
            TraverseBoard x = pegs(48, 8, 30);
            x.setCurrent(29, 11);
            x.replace(peg, 31 - peg % 32, 152 + peg);
            x.setLeeway(peg, peg % 5 - 2);
            int north = (int) x.reckonedNorth(48);
            int east = (int) x.reckonedEast(48);
            x.lose(peg);
            x.setFix(48, north, east);
            due("findLost(" + peg + ")", x.findLost(peg), 1000 * (31 - peg % 32) + 152 + peg);
            x.setFix(48, north + 900, east - 900);
            due("findLost(" + peg + ") by a fix that is a little off", x.findLost(peg), 1000 * (31 - peg % 32) + 152 + peg);
        }
    }

    private static void findLostOfPegNumber() {
        promise(24, "peg: peg number");
        TraverseBoard x = pegs(48, 0, 0);
        x.lose(0);
        x.lose(47);
        x.setFix(1, 0, 70000);
        x.setFix(47, 0, 0);
        x.setFix(48, -90000, 0);
        due("findLost(0)", x.findLost(0), 8007);
        due("findLost(47)", x.findLost(47), 16009);
        due("findLost(-1)", x.findLost(-1), NO_SUCH_PEG);
        due("findLost(48)", x.findLost(48), NO_SUCH_PEG);
    }

    // ---- promise 25

    private static void hashStarts() {
        promise(25, "The hash starts at 1811");
        due("digest()", fresh().digest(), hash(1811, 0, 0, 0, 1, 0, 0, 0, 0, 0, NOTHING, 0));
    }

    private static void hashOfPegCount() {
        promise(25, "The values are: pegCount");
        for (int count = 1; count <= 3; count++) {
            long hash = hash(1811, count);
            for (int peg = 0; peg < count; peg++) {
                hash = hash(hash, 24, 0, 0);
            }
            hash = hash(hash, 0, 0, 1, 0, 0, 0, 0);
            for (int moment = 1; moment <= count; moment++) {
                hash = hash(hash, 0, 0, 0, 0, 0);
            }
            due("digest(), " + count + " pegs", pegs(count, 24, 0).digest(), hash(hash, 0, NOTHING, 0));
        }
    }

    private static void hashOfPegs() {
        promise(25, "for each peg pointOf, speedOf, its leeway");
        TraverseBoard x = pegs(1, 24, 0);
        x.add(25, 0);
        x.setLeeway(1, -2);
        due("digest()", x.digest(), hash(hash(1811, 2, 24, 0, 0, 25, 0, -2, 0, 0),
            1, 0, 0, 0, 0, 0, 0, 0, 0, 0, 0, 0, 0, 0, 0, 0, NOTHING, 0));
        x.replace(1, 8, 1);
        x.setLeeway(1, 0);
        x.setLeeway(0, 2);
        due("digest(), another speed", x.digest(), hash(hash(1811, 2, 24, 0, 2, 8, 1, 0, 0, 0),
            1, 0, 0, 0, 0, 0, 0, 0, 0, 0, 0, 0, 10000, 0, 10000, 10000, 8, 0));
    }

    private static void hashOfCurrent() {
        promise(25, "set and drift");
        TraverseBoard x = fresh();
        for (int set = 0; set < 32; set++) {
            x.setCurrent(set, 50 - set);
            due("digest()", x.digest(), hash(1811, 0, set, 50 - set, 1, 0, 0, 0, 0, 0, NOTHING, 0));
        }
    }

    private static void hashOfWay() {
        promise(25, "distance and bearing from moment 0 to the last moment");
        TraverseBoard x = pegs(1, 0, 0);
        x.setFix(1, 30, -40);
        due("digest()", x.digest(), hash(1811, 1, 0, 0, 0, 0, 0, 1, 0, 0, 0, 0, 1, 30, -40, 30, -40, 50, 27, 0));
        x.add(0, 0);
        x.setFix(2, 0, 0);
        due("digest(), back at moment 0", x.digest(), hash(1811, 2, 0, 0, 0, 0, 0, 0, 0, 0,
            1, 0, 0, 0, 0, 1, 30, -40, 30, -40, 1, 0, 0, 0, 0, 0, NOTHING, 0));
        x.setFix(2, 0, 8);
        due("digest(), towards 8", x.digest(), hash(1811, 2, 0, 0, 0, 0, 0, 0, 0, 0,
            1, 0, 0, 0, 0, 1, 30, -40, 30, -40, 1, 0, 8, 0, 8, 8, 8, 0));
    }

    // ---- what the tests above share

    private static void refusedAs(long code, String call, Supplier<TraverseBoard> start, ToLongFunction<TraverseBoard> refusal) {
        refused(call, start, refusal, code);
    }

    private static TraverseBoard lost(int point, int speed) {
        TraverseBoard x = pegs(1, point, speed);
        x.lose(0);
        return x;
    }

    private static long north(int point) {
        return pegs(1, point, 1).reckonedNorth(1);
    }

    private static long east(int point) {
        return pegs(1, point, 1).reckonedEast(1);
    }

    private static long hash(long start, long... values) {
        long hash = start;
        for (long value : values) {
            hash = 31 * hash + value;
        }
        return hash;
    }
}
