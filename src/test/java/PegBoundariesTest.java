/** The boundary cases of pegs, leeway and the current, promises 1 and 6 to 15. */
final class PegBoundariesTest extends Boundaries {
    private static final int[] NO_POINTS = outside(0, 31);
    private static final int[] NO_SPEEDS = outside(0, 200);
    private static final int[] NO_LEEWAYS = outside(-2, 2);
    private static final int[] NO_DRIFTS = outside(0, 50);

    public static void main(String[] args) {
        begin("PegBoundariesTest");
        errorCodes();
        newObjectHasNoPegs();
        newObjectHasNothingElse();
        newObjectsShareNothing();
        addPoint();
        addSpeed();
        addNumber();
        addHasNoLeeway();
        addFull();
        addBothErrors();
        replacePeg();
        replacePoint();
        replaceSpeed();
        replaceLost();
        replaceKeepsLeeway();
        replaceBothErrors();
        removeFromNone();
        removeFromFull();
        removeFixOfLastMoment();
        removeLost();
        losePeg();
        loseCount();
        loseLost();
        loseKeepsLeeway();
        leewayOfPeg();
        leewayRange();
        leewayPrevious();
        leewayOfLost();
        leewayBothErrors();
        currentSet();
        currentDrift();
        currentPrevious();
        currentBothOut();
        countNoneAndFull();
        countLost();
        pointOfPeg();
        pointOfLost();
        speedOfPeg();
        speedOfLost();
        towardsPoint();
        towardsNone();
        towardsGreatest();
        towardsLost();
        towardsLeeway();
        end();
    }

    private static void errorCodes() {
        description("All error codes are less than -9000000000000000000");
        due("OUT_OF_RANGE", TraverseBoard.OUT_OF_RANGE, OUT_OF_RANGE);
        due("NO_SUCH_PEG", TraverseBoard.NO_SUCH_PEG, NO_SUCH_PEG);
        due("NO_SUCH_MOMENT", TraverseBoard.NO_SUCH_MOMENT, NO_SUCH_MOMENT);
        due("FULL", TraverseBoard.FULL, FULL);
        due("INVALID_PEG", TraverseBoard.INVALID_PEG, INVALID_PEG);
        due("WRONG_STATE", TraverseBoard.WRONG_STATE, WRONG_STATE);
        due("NOTHING", TraverseBoard.NOTHING, NOTHING);
    }

    private static void newObjectHasNoPegs() {
        promise(1, "Creates a board without pegs");
        TraverseBoard x = fresh();
        due("pegCount()", x.pegCount(), 0);
        due("pointOf(0)", x.pointOf(0), NO_SUCH_PEG);
        due("speedOf(0)", x.speedOf(0), NO_SUCH_PEG);
        due("findLost(0)", x.findLost(0), NO_SUCH_PEG);
        due("lose(0)", x.lose(0), NO_SUCH_PEG);
        due("replace(0, 0, 0)", x.replace(0, 0, 0), NO_SUCH_PEG);
        due("setLeeway(0, 0)", x.setLeeway(0, 0), NO_SUCH_PEG);
        due("removeLast()", x.removeLast(), NOTHING);
        due("add(0, 0)", x.add(0, 0), 0);
    }

    private static void newObjectHasNothingElse() {
        description("At first set and drift are 0");
        TraverseBoard x = fresh();
        due("clearBuffer()", x.clearBuffer(), 0);
        due("errorPosition()", x.errorPosition(), 0);
        due("setFix(1, 0, 0)", x.setFix(1, 0, 0), NO_SUCH_MOMENT);
        due("removeFix(1)", x.removeFix(1), NO_SUCH_MOMENT);
        place(x, 0, 0, 0);
        due("digest()", x.digest(), 6822424645125933843L);
        due("setCurrent(0, 0)", x.setCurrent(0, 0), 0);
        due("digest(), the set was 0", x.digest(), 6822424645125933843L);
    }

    private static void newObjectsShareNothing() {
        promise(1, "A new object", "two of them used in turn");
        TraverseBoard x = sailed();
        TraverseBoard y = full();
        TraverseBoard z = fresh();
        due("digest() of one", x.digest(), sailed().digest());
        due("digest() of the next", y.digest(), full().digest());
        due("digest() of the last", z.digest(), fresh().digest());
        x.clearBuffer();
        x.setFix(5, 11, 12);
        x.setCurrent(1, 1);
        x.setLeeway(4, -1);
        x.lose(4);
        x.replace(0, 0, 0);
        x.append('S');
        due("digest() of the next, one was changed", y.digest(), full().digest());
        due("digest() of the last, one was changed", z.digest(), fresh().digest());
        due("setFix(4, 1, 2) of the next", y.setFix(4, 1, 2), 6);
        place(x, 4, -1500000, 70001);
        place(y, 4, 1, 2);
        due("clearBuffer() of the next", y.clearBuffer(), 12);
        due("clearBuffer() of one", x.clearBuffer(), 1);
    }

    private static void addPoint() {
        promise(6, "point: 0 to 31");
        TraverseBoard x = fresh();
        due("add(0, 5)", x.add(0, 5), 0);
        due("add(31, 5)", x.add(31, 5), 1);
        due("pointOf(0)", x.pointOf(0), 0);
        due("pointOf(1)", x.pointOf(1), 31);
        for (int point : NO_POINTS) {
            refused("add(" + point + ", 5)", Boundaries::fresh, board -> board.add(point, 5), OUT_OF_RANGE);
            refused("add(" + point + ", 5)", Boundaries::sailed, board -> board.add(point, 5), OUT_OF_RANGE);
        }
    }

    private static void addSpeed() {
        promise(6, "speed: 0 to 200");
        TraverseBoard x = fresh();
        due("add(5, 0)", x.add(5, 0), 0);
        due("add(5, 200)", x.add(5, 200), 1);
        due("speedOf(0)", x.speedOf(0), 0);
        due("speedOf(1)", x.speedOf(1), 200);
        for (int speed : NO_SPEEDS) {
            refused("add(5, " + speed + ")", Boundaries::fresh, board -> board.add(5, speed), OUT_OF_RANGE);
            refused("add(5, " + speed + ")", Boundaries::sailed, board -> board.add(5, speed), OUT_OF_RANGE);
            refused("add(" + speed + ", " + speed + ")", Boundaries::sailed, board -> board.add(speed, speed), OUT_OF_RANGE);
        }
    }

    private static void addNumber() {
        promise(6, "Returns the number of the peg");
        TraverseBoard x = fresh();
        for (int peg = 0; peg < 48; peg++) {
            due("add(" + peg % 32 + ", 200)", x.add(peg % 32, 200), peg);
        }
        for (int peg = 0; peg < 48; peg++) {
            due("pointOf(" + peg + ")", x.pointOf(peg), peg % 32);
        }
        due("pegCount()", x.pegCount(), 48);
    }

    private static void addHasNoLeeway() {
        promise(6, "Adds a peg behind the last peg, with leeway 0");
        for (int leeway = -2; leeway <= 2; leeway++) {
            TraverseBoard x = pegs(2, 3, 4);
            x.setLeeway(1, leeway);
            x.lose(1);
            x.removeLast();
            due("add(0, 9) where a lost peg was removed", x.add(0, 9), 1);
            due("pointOf(1)", x.pointOf(1), 0);
            due("speedOf(1)", x.speedOf(1), 9);
            due("reckonedEast(1)", x.reckonedEast(1), 4 * 5556);
            due("reckonedEast(2)", x.reckonedEast(2), 4 * 5556);
            due("setLeeway(1, 0)", x.setLeeway(1, 0), 0);
            due("lose(0), none is lost but this", x.lose(0), 1);
        }
    }

    private static void addFull() {
        promise(6, "FULL if there are 48 pegs");
        due("add(31, 200), 47 pegs", pegs(47, 0, 0).add(31, 200), 47);
        refused("add(31, 200), 48 pegs", Boundaries::full, x -> x.add(31, 200), FULL);
        refused("add(0, 0), 48 pegs", () -> pegs(48, 1, 1), x -> x.add(0, 0), FULL);
        TraverseBoard x = full();
        due("removeLast()", x.removeLast(), 47);
        due("add(0, 0), 47 pegs", x.add(0, 0), 47);
        due("add(0, 0), 48 pegs again", x.add(0, 0), FULL);
    }

    private static void addBothErrors() {
        promise(6, "OUT_OF_RANGE if point or speed is out of range; FULL if there are 48 pegs", "both errors apply");
        for (int bound = 0; bound < 4; bound++) {
            int point = NO_POINTS[bound];
            int speed = NO_SPEEDS[bound];
            refused("add(" + point + ", 0), 48 pegs", Boundaries::full, x -> x.add(point, 0), OUT_OF_RANGE);
            refused("add(0, " + speed + "), 48 pegs", Boundaries::full, x -> x.add(0, speed), OUT_OF_RANGE);
            refused("add(" + point + ", " + speed + "), 48 pegs", Boundaries::full, x -> x.add(point, speed), OUT_OF_RANGE);
        }
    }

    private static void replacePeg() {
        promise(7, "peg: peg number");
        TraverseBoard x = full();
        due("replace(0, 8, 9)", x.replace(0, 8, 9), 0);
        due("replace(47, 10, 11)", x.replace(47, 10, 11), 0);
        due("pointOf(0)", x.pointOf(0), 8);
        due("speedOf(0)", x.speedOf(0), 9);
        due("pointOf(47)", x.pointOf(47), 10);
        due("speedOf(47)", x.speedOf(47), 11);
        due("pointOf(1)", x.pointOf(1), 7);
        due("speedOf(46)", x.speedOf(46), 37 * 46 % 201);
        refused("replace(0, 8, 9) without pegs", Boundaries::fresh, board -> board.replace(0, 8, 9), NO_SUCH_PEG);
        for (int peg : outside(0, 4)) {
            refused("replace(" + peg + ", 8, 9), 5 pegs", Boundaries::sailed, board -> board.replace(peg, 8, 9), NO_SUCH_PEG);
        }
        for (int peg : outside(0, 47)) {
            refused("replace(" + peg + ", 8, 9), 48 pegs", Boundaries::full, board -> board.replace(peg, 8, 9), NO_SUCH_PEG);
        }
    }

    private static void replacePoint() {
        promise(7, "point: 0 to 31");
        TraverseBoard x = sailed();
        due("replace(1, 0, 5)", x.replace(1, 0, 5), 0);
        due("pointOf(1)", x.pointOf(1), 0);
        due("replace(1, 31, 5)", x.replace(1, 31, 5), 0);
        due("pointOf(1)", x.pointOf(1), 31);
        for (int point : NO_POINTS) {
            refused("replace(1, " + point + ", 5)", Boundaries::sailed, board -> board.replace(1, point, 5), OUT_OF_RANGE);
            refused("replace(2, " + point + ", 5), lost", Boundaries::sailed, board -> board.replace(2, point, 5), OUT_OF_RANGE);
        }
    }

    private static void replaceSpeed() {
        promise(7, "speed: 0 to 200");
        TraverseBoard x = sailed();
        due("replace(1, 5, 200)", x.replace(1, 5, 200), 0);
        due("speedOf(1)", x.speedOf(1), 200);
        due("replace(1, 5, 0)", x.replace(1, 5, 0), 0);
        due("speedOf(1)", x.speedOf(1), 0);
        for (int speed : NO_SPEEDS) {
            refused("replace(1, 5, " + speed + ")", Boundaries::sailed, board -> board.replace(1, 5, speed), OUT_OF_RANGE);
            refused("replace(2, 5, " + speed + "), lost", Boundaries::sailed, board -> board.replace(2, 5, speed), OUT_OF_RANGE);
        }
    }

    private static void replaceLost() {
        promise(7, "Returns 1 if the peg was lost, 0 if not");
        TraverseBoard x = pegs(48, 9, 9);
        for (int peg = 0; peg < 48; peg++) {
            x.lose(peg);
        }
        for (int peg = 0; peg < 48; peg++) {
            due("replace(" + peg + ", 8, 1), lost", x.replace(peg, 8, 1), 1);
            due("replace(" + peg + ", 8, 2), found", x.replace(peg, 8, 2), 0);
            due("reckonedEast(48)", x.reckonedEast(48), (peg + 1) * 20000L);
        }
    }

    private static void replaceKeepsLeeway() {
        promise(7, "Its leeway stays");
        for (int leeway = -2; leeway <= 2; leeway++) {
            TraverseBoard x = pegs(1, 9, 9);
            x.setLeeway(0, leeway);
            x.replace(0, 31, 200);
            due("setLeeway(0, ..)", x.setLeeway(0, leeway), leeway);
            x.lose(0);
            x.replace(0, 0, 0);
            due("setLeeway(0, ..), once lost", x.setLeeway(0, leeway), leeway);
        }
    }

    private static void replaceBothErrors() {
        promise(7, "NO_SUCH_PEG; OUT_OF_RANGE if point or speed is out of range", "both errors apply");
        refused("replace(0, 32, 0) without pegs", Boundaries::fresh, x -> x.replace(0, 32, 0), NO_SUCH_PEG);
        refused("replace(0, 0, 201) without pegs", Boundaries::fresh, x -> x.replace(0, 0, 201), NO_SUCH_PEG);
        refused("replace(5, -1, 0)", Boundaries::sailed, x -> x.replace(5, -1, 0), NO_SUCH_PEG);
        refused("replace(-1, 0, -1)", Boundaries::sailed, x -> x.replace(-1, 0, -1), NO_SUCH_PEG);
        refused("replace(48, 32, 201)", Boundaries::full, x -> x.replace(48, 32, 201), NO_SUCH_PEG);
        refused("replace(least, least, least)", Boundaries::full, x -> x.replace(LEAST, LEAST, LEAST), NO_SUCH_PEG);
        refused("replace(greatest, ..)", Boundaries::full, x -> x.replace(GREATEST, GREATEST, GREATEST), NO_SUCH_PEG);
    }

    private static void removeFromNone() {
        promise(8, "NOTHING if there are no pegs");
        refused("removeLast() without pegs", Boundaries::fresh, x -> x.removeLast(), NOTHING);
        refused("removeLast() without pegs", () -> written("N 5"), x -> x.removeLast(), NOTHING);
        TraverseBoard x = pegs(1, 0, 0);
        due("removeLast(), one peg", x.removeLast(), 0);
        due("removeLast(), none", x.removeLast(), NOTHING);
        due("removeLast(), none still", x.removeLast(), NOTHING);
        due("add(0, 0)", x.add(0, 0), 0);
    }

    private static void removeFromFull() {
        promise(8, "Returns the number of pegs left");
        TraverseBoard x = full();
        for (int left = 47; left >= 0; left--) {
            due("removeLast()", x.removeLast(), left);
            due("pegCount()", x.pegCount(), left);
            due("pointOf(" + left + ")", x.pointOf(left), NO_SUCH_PEG);
            due("reckonedNorth(" + (left + 1) + ")", x.reckonedNorth(left + 1), NO_SUCH_MOMENT);
        }
        due("removeLast()", x.removeLast(), NOTHING);
        place(x, 0, 0, 0);
    }

    private static void removeFixOfLastMoment() {
        promise(8, "A fix at the last moment is removed, too");
        TraverseBoard x = pegs(48, 0, 0);
        x.setFix(46, 1, 2);
        x.setFix(47, 3, 4);
        due("setFix(48, 5, 6)", x.setFix(48, 5, 6), 4);
        due("removeLast()", x.removeLast(), 47);
        place(x, 47, 3, 4);
        x.add(0, 0);
        place(x, 48, 3, 4);
        due("removeFix(48), it does not come back with a peg", x.removeFix(48), NOTHING);
        due("setFix(46, 1, 2), the fixes before it are left", x.setFix(46, 1, 2), 3);
        due("removeLast(), the last moment has no fix", x.removeLast(), 47);
        due("removeFix(47)", x.removeFix(47), 2);
        TraverseBoard one = pegs(1, 0, 7);
        one.setFix(1, 5, 6);
        due("removeLast(), one peg", one.removeLast(), 0);
        place(one, 0, 0, 0);
        one.add(0, 7);
        place(one, 1, 70000, 0);
    }

    private static void removeLost() {
        promise(8, "Removes the last peg", "a lost one");
        TraverseBoard x = pegs(3, 0, 0);
        x.lose(0);
        x.lose(2);
        due("removeLast()", x.removeLast(), 2);
        due("lose(2)", x.lose(2), NO_SUCH_PEG);
        due("lose(1), with the peg the loss is gone", x.lose(1), 2);
        x.add(0, 0);
        due("speedOf(2)", x.speedOf(2), 0);
    }

    private static void losePeg() {
        promise(9, "peg: peg number");
        TraverseBoard x = full();
        due("lose(0)", x.lose(0), 4);
        due("lose(47)", x.lose(47), 5);
        refused("lose(0) without pegs", Boundaries::fresh, board -> board.lose(0), NO_SUCH_PEG);
        for (int peg : outside(0, 4)) {
            refused("lose(" + peg + "), 5 pegs", Boundaries::sailed, board -> board.lose(peg), NO_SUCH_PEG);
        }
        for (int peg : outside(0, 47)) {
            refused("lose(" + peg + "), 48 pegs", Boundaries::full, board -> board.lose(peg), NO_SUCH_PEG);
        }
    }

    private static void loseCount() {
        promise(9, "Returns the number of lost pegs afterwards");
        TraverseBoard x = pegs(48, 31, 200);
        for (int count = 1; count <= 48; count++) {
            due("lose(" + (48 - count) + ")", x.lose(48 - count), count);
        }
        due("replace(5, 0, 0)", x.replace(5, 0, 0), 1);
        due("lose(5)", x.lose(5), 48);
    }

    private static void loseLost() {
        promise(9, "WRONG_STATE if the peg is lost already");
        refused("lose(2), lost", Boundaries::sailed, x -> x.lose(2), WRONG_STATE);
        refused("lose(10), lost", Boundaries::full, x -> x.lose(10), WRONG_STATE);
        TraverseBoard x = pegs(1, 0, 0);
        due("lose(0), speed 0", x.lose(0), 1);
        due("lose(0), lost", x.lose(0), WRONG_STATE);
        x.removeLast();
        due("lose(0), removed", x.lose(0), NO_SUCH_PEG);
        x.add(0, 0);
        due("lose(0), a new peg", x.lose(0), 1);
    }

    private static void loseKeepsLeeway() {
        description("then its point and its speed are unknown, but it keeps its leeway");
        for (int leeway = -2; leeway <= 2; leeway++) {
            TraverseBoard x = pegs(1, 9, 9);
            x.setLeeway(0, leeway);
            due("lose(0)", x.lose(0), 1);
            due("pointOf(0)", x.pointOf(0), WRONG_STATE);
            due("speedOf(0)", x.speedOf(0), WRONG_STATE);
            due("setLeeway(0, ..)", x.setLeeway(0, leeway), leeway);
        }
    }

    private static void leewayOfPeg() {
        promise(10, "peg: peg number");
        TraverseBoard x = full();
        due("setLeeway(0, 1)", x.setLeeway(0, 1), -2);
        due("setLeeway(47, 1)", x.setLeeway(47, 1), 0);
        due("setLeeway(0, 0)", x.setLeeway(0, 0), 1);
        due("setLeeway(47, 0)", x.setLeeway(47, 0), 1);
        refused("setLeeway(0, 1) without pegs", Boundaries::fresh, board -> board.setLeeway(0, 1), NO_SUCH_PEG);
        for (int peg : outside(0, 4)) {
            refused("setLeeway(" + peg + ", 1), 5 pegs", Boundaries::sailed, board -> board.setLeeway(peg, 1), NO_SUCH_PEG);
        }
        for (int peg : outside(0, 47)) {
            refused("setLeeway(" + peg + ", 1), 48 pegs", Boundaries::full, board -> board.setLeeway(peg, 1), NO_SUCH_PEG);
        }
    }

    private static void leewayRange() {
        promise(10, "leeway: -2 to 2");
        for (int leeway : NO_LEEWAYS) {
            refused("setLeeway(0, " + leeway + ")", Boundaries::sailed, x -> x.setLeeway(0, leeway), OUT_OF_RANGE);
            refused("setLeeway(2, " + leeway + "), lost", Boundaries::sailed, x -> x.setLeeway(2, leeway), OUT_OF_RANGE);
            refused("setLeeway(47, " + leeway + ")", Boundaries::full, x -> x.setLeeway(47, leeway), OUT_OF_RANGE);
        }
    }

    private static void leewayPrevious() {
        promise(10, "Returns the previous leeway");
        TraverseBoard x = pegs(2, 0, 0);
        due("setLeeway(1, -2)", x.setLeeway(1, -2), 0);
        due("setLeeway(1, -2)", x.setLeeway(1, -2), -2);
        due("setLeeway(1, 2)", x.setLeeway(1, 2), -2);
        due("setLeeway(1, 3)", x.setLeeway(1, 3), OUT_OF_RANGE);
        due("setLeeway(1, 1)", x.setLeeway(1, 1), 2);
        due("setLeeway(1, -1)", x.setLeeway(1, -1), 1);
        due("setLeeway(1, 0)", x.setLeeway(1, 0), -1);
        due("setLeeway(0, 0)", x.setLeeway(0, 0), 0);
    }

    private static void leewayOfLost() {
        promise(10, "Sets the leeway of a peg, lost or not");
        TraverseBoard x = pegs(1, 31, 100);
        x.lose(0);
        due("setLeeway(0, 2)", x.setLeeway(0, 2), 0);
        due("setLeeway(0, -2)", x.setLeeway(0, -2), 2);
        due("pointOf(0)", x.pointOf(0), WRONG_STATE);
        due("lose(0)", x.lose(0), WRONG_STATE);
        x.replace(0, 1, 100);
        place(x, 1, 980800, -195100);
    }

    private static void leewayBothErrors() {
        promise(10, "NO_SUCH_PEG; OUT_OF_RANGE if leeway is out of range", "both errors apply");
        refused("setLeeway(0, 3) without pegs", Boundaries::fresh, x -> x.setLeeway(0, 3), NO_SUCH_PEG);
        refused("setLeeway(5, -3)", Boundaries::sailed, x -> x.setLeeway(5, -3), NO_SUCH_PEG);
        refused("setLeeway(-1, 3)", Boundaries::sailed, x -> x.setLeeway(-1, 3), NO_SUCH_PEG);
        refused("setLeeway(48, least)", Boundaries::full, x -> x.setLeeway(48, LEAST), NO_SUCH_PEG);
        refused("setLeeway(least, greatest)", Boundaries::full, x -> x.setLeeway(LEAST, GREATEST), NO_SUCH_PEG);
    }

    private static void currentSet() {
        promise(11, "set: the point towards which it sets, 0 to 31");
        TraverseBoard x = pegs(1, 0, 0);
        due("setCurrent(0, 10)", x.setCurrent(0, 10), 0);
        place(x, 1, 100000, 0);
        due("setCurrent(31, 10)", x.setCurrent(31, 10), 10);
        place(x, 1, 98080, -19510);
        for (int set : NO_POINTS) {
            refused("setCurrent(" + set + ", 7)", Boundaries::fresh, board -> board.setCurrent(set, 7), OUT_OF_RANGE);
            refused("setCurrent(" + set + ", 7)", Boundaries::sailed, board -> board.setCurrent(set, 7), OUT_OF_RANGE);
        }
    }

    private static void currentDrift() {
        promise(11, "drift: 0 to 50");
        TraverseBoard x = pegs(1, 0, 0);
        due("setCurrent(8, 50)", x.setCurrent(8, 50), 0);
        place(x, 1, 0, 500000);
        due("setCurrent(8, 0)", x.setCurrent(8, 0), 50);
        place(x, 1, 0, 0);
        for (int drift : NO_DRIFTS) {
            refused("setCurrent(7, " + drift + ")", Boundaries::fresh, board -> board.setCurrent(7, drift), OUT_OF_RANGE);
            refused("setCurrent(7, " + drift + ")", Boundaries::sailed, board -> board.setCurrent(7, drift), OUT_OF_RANGE);
        }
    }

    private static void currentPrevious() {
        promise(11, "Returns the previous drift");
        TraverseBoard x = fresh();
        due("setCurrent(31, 50)", x.setCurrent(31, 50), 0);
        due("setCurrent(32, 1)", x.setCurrent(32, 1), OUT_OF_RANGE);
        due("setCurrent(1, 51)", x.setCurrent(1, 51), OUT_OF_RANGE);
        due("setCurrent(0, 50)", x.setCurrent(0, 50), 50);
        due("setCurrent(31, 0)", x.setCurrent(31, 0), 50);
        due("setCurrent(0, 1)", x.setCurrent(0, 1), 0);
        due("setCurrent(0, 0)", x.setCurrent(0, 0), 1);
    }

    private static void currentBothOut() {
        promise(11, "OUT_OF_RANGE if set or drift is out of range", "both are");
        for (int bound = 0; bound < 4; bound++) {
            int set = NO_POINTS[bound];
            int drift = NO_DRIFTS[bound];
            refused("setCurrent(" + set + ", " + drift + ")", Boundaries::full, x -> x.setCurrent(set, drift), OUT_OF_RANGE);
        }
    }

    private static void countNoneAndFull() {
        promise(12, "Returns the number of pegs");
        unchanged("pegCount()", Boundaries::fresh, x -> x.pegCount(), 0);
        unchanged("pegCount()", Boundaries::sailed, x -> x.pegCount(), 5);
        unchanged("pegCount()", Boundaries::full, x -> x.pegCount(), 48);
        TraverseBoard x = full();
        x.add(0, 0);
        due("pegCount() after a refused peg", x.pegCount(), 48);
        TraverseBoard none = fresh();
        none.removeLast();
        due("pegCount() after a refused removal", none.pegCount(), 0);
    }

    private static void countLost() {
        promise(12, "Returns the number of pegs, lost ones included");
        TraverseBoard x = pegs(48, 0, 0);
        for (int peg = 0; peg < 48; peg++) {
            x.lose(peg);
            due("pegCount()", x.pegCount(), 48);
        }
    }

    private static void pointOfPeg() {
        promise(13, "peg: peg number");
        TraverseBoard x = full();
        due("pointOf(0)", x.pointOf(0), 0);
        due("pointOf(47)", x.pointOf(47), 7 * 47 % 32);
        refused("pointOf(0) without pegs", Boundaries::fresh, board -> board.pointOf(0), NO_SUCH_PEG);
        for (int peg : outside(0, 4)) {
            refused("pointOf(" + peg + "), 5 pegs", Boundaries::sailed, board -> board.pointOf(peg), NO_SUCH_PEG);
        }
        for (int peg : outside(0, 47)) {
            refused("pointOf(" + peg + "), 48 pegs", Boundaries::full, board -> board.pointOf(peg), NO_SUCH_PEG);
        }
    }

    private static void pointOfLost() {
        promise(13, "WRONG_STATE if the peg is lost");
        refused("pointOf(2), lost", Boundaries::sailed, x -> x.pointOf(2), WRONG_STATE);
        refused("pointOf(31), lost", Boundaries::full, x -> x.pointOf(31), WRONG_STATE);
        due("pointOf(29)", full().pointOf(29), 7 * 29 % 32);
        due("pointOf(32)", full().pointOf(32), 0);
        TraverseBoard x = pegs(1, 0, 0);
        x.lose(0);
        x.removeLast();
        due("pointOf(0), a lost peg was removed", x.pointOf(0), NO_SUCH_PEG);
    }

    private static void speedOfPeg() {
        promise(14, "peg: peg number");
        TraverseBoard x = full();
        due("speedOf(0)", x.speedOf(0), 0);
        due("speedOf(47)", x.speedOf(47), 37 * 47 % 201);
        refused("speedOf(0) without pegs", Boundaries::fresh, board -> board.speedOf(0), NO_SUCH_PEG);
        for (int peg : outside(0, 4)) {
            refused("speedOf(" + peg + "), 5 pegs", Boundaries::sailed, board -> board.speedOf(peg), NO_SUCH_PEG);
        }
        for (int peg : outside(0, 47)) {
            refused("speedOf(" + peg + "), 48 pegs", Boundaries::full, board -> board.speedOf(peg), NO_SUCH_PEG);
        }
    }

    private static void speedOfLost() {
        promise(14, "WRONG_STATE if the peg is lost");
        refused("speedOf(2), lost", Boundaries::sailed, x -> x.speedOf(2), WRONG_STATE);
        refused("speedOf(31), lost", Boundaries::full, x -> x.speedOf(31), WRONG_STATE);
        due("speedOf(29)", full().speedOf(29), 37 * 29 % 201);
        due("speedOf(32)", full().speedOf(32), 37 * 32 % 201);
        TraverseBoard x = pegs(1, 0, 0);
        x.lose(0);
        x.removeLast();
        due("speedOf(0), a lost peg was removed", x.speedOf(0), NO_SUCH_PEG);
    }

    private static void towardsPoint() {
        promise(15, "point: 0 to 31");
        TraverseBoard x = pegs(2, 0, 3);
        x.add(31, 200);
        x.add(30, 17);
        due("speedTowards(0)", x.speedTowards(0), 6);
        due("speedTowards(31)", x.speedTowards(31), 200);
        due("speedTowards(1)", x.speedTowards(1), 0);
        for (int point : NO_POINTS) {
            refused("speedTowards(" + point + ")", Boundaries::fresh, board -> board.speedTowards(point), OUT_OF_RANGE);
            refused("speedTowards(" + point + ")", Boundaries::sailed, board -> board.speedTowards(point), OUT_OF_RANGE);
            refused("speedTowards(" + point + ")", Boundaries::full, board -> board.speedTowards(point), OUT_OF_RANGE);
        }
    }

    private static void towardsNone() {
        promise(15, "Adds up the speeds of the pegs with a point", "none");
        for (int point = 0; point < 32; point++) {
            due("speedTowards(" + point + ") without pegs", fresh().speedTowards(point), 0);
        }
        TraverseBoard x = pegs(1, 31, 200);
        x.removeLast();
        due("speedTowards(31), the peg was removed", x.speedTowards(31), 0);
        x.add(0, 0);
        due("speedTowards(0), speed 0", x.speedTowards(0), 0);
        due("speedTowards(31)", x.speedTowards(31), 0);
    }

    private static void towardsGreatest() {
        promise(15, "Adds up the speeds of the pegs with a point", "48 pegs");
        TraverseBoard x = pegs(48, 31, 200);
        due("speedTowards(31)", x.speedTowards(31), 9600);
        due("speedTowards(30)", x.speedTowards(30), 0);
        due("speedTowards(0)", x.speedTowards(0), 0);
        x.replace(47, 0, 200);
        due("speedTowards(31)", x.speedTowards(31), 9400);
        due("speedTowards(0)", x.speedTowards(0), 200);
    }

    private static void towardsLost() {
        promise(15, "Lost pegs and leeway do not count", "lost pegs");
        TraverseBoard x = pegs(48, 0, 200);
        for (int peg = 0; peg < 48; peg++) {
            x.lose(peg);
            due("speedTowards(0)", x.speedTowards(0), 200 * (47 - peg));
        }
        x.replace(47, 0, 1);
        due("speedTowards(0), found again", x.speedTowards(0), 1);
    }

    private static void towardsLeeway() {
        promise(15, "Lost pegs and leeway do not count", "leeway that goes round");
        TraverseBoard x = pegs(1, 31, 10);
        x.add(0, 100);
        x.setLeeway(0, 1);
        x.setLeeway(1, -1);
        due("speedTowards(0)", x.speedTowards(0), 100);
        due("speedTowards(31)", x.speedTowards(31), 10);
        x.setLeeway(0, 2);
        x.setLeeway(1, -2);
        due("speedTowards(1)", x.speedTowards(1), 0);
        due("speedTowards(30)", x.speedTowards(30), 0);
        x.setCurrent(0, 50);
        due("speedTowards(0), the current does not count", x.speedTowards(0), 100);
    }
}
