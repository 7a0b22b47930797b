/** The boundary cases of the compass and of positions, promises 18 to 23. */
final class PositionBoundariesTest extends Boundaries {
    private static final int MOST = 200000000;

    /** The components of each point, north and east, written out. */
    private static final int[][] COMPONENTS = {
        {10000, 0}, {9808, 1951}, {9239, 3827}, {8315, 5556}, {7071, 7071}, {5556, 8315}, {3827, 9239}, {1951, 9808},
        {0, 10000}, {-1951, 9808}, {-3827, 9239}, {-5556, 8315}, {-7071, 7071}, {-8315, 5556}, {-9239, 3827}, {-9808, 1951},
        {-10000, 0}, {-9808, -1951}, {-9239, -3827}, {-8315, -5556}, {-7071, -7071}, {-5556, -8315}, {-3827, -9239}, {-1951, -9808},
        {0, -10000}, {1951, -9808}, {3827, -9239}, {5556, -8315}, {7071, -7071}, {8315, -5556}, {9239, -3827}, {9808, -1951}};

    public static void main(String[] args) {
        begin("PositionBoundariesTest");
        componentsOfPegs();
        componentsOfCurrents();
        pointsGoRound();
        legsOfLeastAndGreatest();
        legOfLost();
        reckonedMoments();
        reckonedFromFix();
        reckonedGreatest();
        correctedMoments();
        correctedAtFix();
        correctedBetween();
        correctedFloors();
        correctedNextFixes();
        correctedGreatest();
        correctedWithoutFixAfter();
        distanceMoments();
        distanceSame();
        distanceRoots();
        distanceGreatest();
        bearingMoments();
        bearingNothing();
        bearingBothErrors();
        bearingOfPoints();
        bearingTies();
        bearingLeastAndGreatest();
        end();
    }

    private static void componentsOfPegs() {
        description("A movement of d units towards point p adds d * cos(p) to the north coordinate and d * sin(p) to the east coordinate");
        for (int point = 0; point < 32; point++) {
            place(pegs(1, point, 1), 1, COMPONENTS[point][0], COMPONENTS[point][1]);
        }
    }

    private static void componentsOfCurrents() {
        description("followed by the movement of drift units towards set");
        for (int point = 0; point < 32; point++) {
            TraverseBoard x = pegs(2, 0, 0);
            x.setCurrent(point, 1);
            place(x, 2, 2 * COMPONENTS[point][0], 2 * COMPONENTS[point][1]);
        }
    }

    private static void pointsGoRound() {
        description("Point numbers are added modulo 32 with a result from 0 to 31");
        leewayLeads(31, 1, 0);
        leewayLeads(31, 2, 1);
        leewayLeads(30, 1, 31);
        leewayLeads(30, 2, 0);
        leewayLeads(29, 2, 31);
        leewayLeads(0, -1, 31);
        leewayLeads(0, -2, 30);
        leewayLeads(1, -1, 0);
        leewayLeads(1, -2, 31);
        leewayLeads(2, -2, 0);
        // The cosine goes round between 23 and 24.
        leewayLeads(23, 1, 24);
        leewayLeads(22, 2, 24);
        leewayLeads(23, 2, 25);
        leewayLeads(24, -1, 23);
        leewayLeads(25, -2, 23);
        for (int point = 0; point < 32; point++) {
            for (int leeway = -2; leeway <= 2; leeway++) {
                leewayLeads(point, leeway, (point + leeway + 32) % 32);
            }
        }
    }

    private static void leewayLeads(int point, int leeway, int made) {
        TraverseBoard x = pegs(1, point, 3);
        x.setLeeway(0, leeway);
        place(x, 1, 3 * COMPONENTS[made][0], 3 * COMPONENTS[made][1]);
        due("pointOf(0) with leeway " + leeway, x.pointOf(0), point);
    }

    private static void legsOfLeastAndGreatest() {
        description("The leg of a peg is the movement of speed units towards point + leeway");
        place(pegs(48, 8, 0), 48, 0, 0);
        place(pegs(1, 8, 200), 1, 0, 2000000);
        place(pegs(1, 24, 199), 1, 0, -1990000);
        TraverseBoard x = pegs(1, 0, 200);
        x.setCurrent(16, 50);
        place(x, 1, 1500000, 0);
        x.setCurrent(16, 0);
        place(x, 1, 2000000, 0);
    }

    private static void legOfLost() {
        description("The leg of a lost peg is the movement by the current alone");
        TraverseBoard x = pegs(48, 4, 200);
        for (int peg = 0; peg < 48; peg++) {
            x.setLeeway(peg, 2);
            x.lose(peg);
        }
        place(x, 48, 0, 0);
        x.setCurrent(31, 50);
        place(x, 48, 48 * 50 * 9808, -48 * 50 * 1951);
        due("replace(0, 31, 1)", x.replace(0, 31, 1), 1);
        place(x, 1, 50 * 9808 + 9808, -50 * 1951 + 1951);
    }

    private static void reckonedMoments() {
        promise(18, "moment: 0 to the number of pegs");
        due("reckonedNorth(0) without pegs", fresh().reckonedNorth(0), 0);
        due("reckonedNorth(0)", full().reckonedNorth(0), 0);
        due("reckonedNorth(5)", sailed().reckonedNorth(5), -827772);
        due("reckonedNorth(48)", full().reckonedNorth(48), MOST);
        promise(19, "moment: 0 to the number of pegs");
        due("reckonedEast(0) without pegs", fresh().reckonedEast(0), 0);
        due("reckonedEast(0)", full().reckonedEast(0), 0);
        due("reckonedEast(5)", sailed().reckonedEast(5), 178096);
        due("reckonedEast(48)", full().reckonedEast(48), 1 - MOST);
        for (int bound = 0; bound < 4; bound++) {
            int few = outside(0, 0)[bound];
            int some = outside(0, 5)[bound];
            int most = outside(0, 48)[bound];
            promise(18, "NO_SUCH_MOMENT");
            refused("reckonedNorth(" + few + ")", Boundaries::fresh, x -> x.reckonedNorth(few), NO_SUCH_MOMENT);
            refused("reckonedNorth(" + some + ")", Boundaries::sailed, x -> x.reckonedNorth(some), NO_SUCH_MOMENT);
            refused("reckonedNorth(" + most + ")", Boundaries::full, x -> x.reckonedNorth(most), NO_SUCH_MOMENT);
            promise(19, "NO_SUCH_MOMENT");
            refused("reckonedEast(" + few + ")", Boundaries::fresh, x -> x.reckonedEast(few), NO_SUCH_MOMENT);
            refused("reckonedEast(" + some + ")", Boundaries::sailed, x -> x.reckonedEast(some), NO_SUCH_MOMENT);
            refused("reckonedEast(" + most + ")", Boundaries::full, x -> x.reckonedEast(most), NO_SUCH_MOMENT);
        }
    }

    private static void reckonedFromFix() {
        description("For a moment k let a be the last moment with a fix that is not after k");
        TraverseBoard x = pegs(5, 0, 10);
        x.setFix(2, 7, 8);
        x.setFix(3, 70, 80);
        due("reckonedNorth(0)", x.reckonedNorth(0), 0);
        due("reckonedNorth(1), before the first fix", x.reckonedNorth(1), 100000);
        due("reckonedNorth(2), at a fix", x.reckonedNorth(2), 7);
        due("reckonedEast(2), at a fix", x.reckonedEast(2), 8);
        due("reckonedNorth(3), at the next fix", x.reckonedNorth(3), 70);
        due("reckonedNorth(4), behind a fix", x.reckonedNorth(4), 100070);
        due("reckonedNorth(5)", x.reckonedNorth(5), 200070);
        due("reckonedEast(5)", x.reckonedEast(5), 80);
    }

    private static void reckonedGreatest() {
        description("All error codes are less than -9000000000000000000, and no other result but a digest is");
        int[] ways = {0, 8, 16, 24};
        for (int way : ways) {
            TraverseBoard x = pegs(48, way, 200);
            x.setCurrent(way, 50);
            int north = COMPONENTS[way][0] / 10000;
            int east = COMPONENTS[way][1] / 10000;
            place(x, 48, north * 120000000, east * 120000000);
            x.setFix(1, north * MOST, east * MOST);
            place(x, 48, north * 317500000, east * 317500000);
            place(x, 2, north * 202500000, east * 202500000);
        }
    }

    private static void correctedMoments() {
        promise(20, "moment: 0 to the number of pegs");
        due("correctedNorth(0) without pegs", fresh().correctedNorth(0), 0);
        due("correctedNorth(0)", full().correctedNorth(0), 0);
        due("correctedNorth(5)", sailed().correctedNorth(5), -827772);
        due("correctedNorth(48)", full().correctedNorth(48), MOST);
        promise(21, "moment: 0 to the number of pegs");
        due("correctedEast(0) without pegs", fresh().correctedEast(0), 0);
        due("correctedEast(0)", full().correctedEast(0), 0);
        due("correctedEast(5)", sailed().correctedEast(5), 178096);
        due("correctedEast(48)", full().correctedEast(48), 1 - MOST);
        for (int bound = 0; bound < 4; bound++) {
            int few = outside(0, 0)[bound];
            int some = outside(0, 5)[bound];
            int most = outside(0, 48)[bound];
            promise(20, "NO_SUCH_MOMENT");
            refused("correctedNorth(" + few + ")", Boundaries::fresh, x -> x.correctedNorth(few), NO_SUCH_MOMENT);
            refused("correctedNorth(" + some + ")", Boundaries::sailed, x -> x.correctedNorth(some), NO_SUCH_MOMENT);
            refused("correctedNorth(" + most + ")", Boundaries::full, x -> x.correctedNorth(most), NO_SUCH_MOMENT);
            promise(21, "NO_SUCH_MOMENT");
            refused("correctedEast(" + few + ")", Boundaries::fresh, x -> x.correctedEast(few), NO_SUCH_MOMENT);
            refused("correctedEast(" + some + ")", Boundaries::sailed, x -> x.correctedEast(some), NO_SUCH_MOMENT);
            refused("correctedEast(" + most + ")", Boundaries::full, x -> x.correctedEast(most), NO_SUCH_MOMENT);
        }
    }

    private static void correctedAtFix() {
        description("The corrected position at k is the fix at k if k has one");
        TraverseBoard x = sailed();
        place(x, 0, 0, 0);
        place(x, 1, 900000, -40000);
        place(x, 4, -1500000, 70001);
    }

    private static void correctedBetween() {
        description("Otherwise, if there is a moment with a fix after k, let b be the first such moment");
        TraverseBoard x = sailed();
        positions(x, 2, 972228, 68095, 58425, 24447);
        positions(x, 3, 1044456, 176190, -783150, 88894);
        TraverseBoard still = pegs(48, 0, 0);
        still.setFix(24, 240, -240);
        still.setFix(48, 480, 0);
        positions(still, 1, 0, 0, 10, -10);
        positions(still, 23, 0, 0, 230, -230);
        place(still, 24, 240, -240);
        positions(still, 25, 240, -240, 250, -230);
        positions(still, 47, 240, -240, 470, -10);
        place(still, 48, 480, 0);
    }

    private static void correctedFloors() {
        description("plus floorDiv(error * (k - a), b - a), where floorDiv is Math.floorDiv");
        TraverseBoard x = pegs(48, 0, 0);
        x.setFix(48, 1, -1);
        positions(x, 1, 0, 0, 0, -1);
        positions(x, 24, 0, 0, 0, -1);
        positions(x, 47, 0, 0, 0, -1);
        x.setFix(48, -47, 47);
        positions(x, 1, 0, 0, -1, 0);
        positions(x, 2, 0, 0, -2, 1);
        positions(x, 47, 0, 0, -47, 46);
        x.setFix(48, 48, -48);
        positions(x, 1, 0, 0, 1, -1);
        positions(x, 47, 0, 0, 47, -47);
        x.setFix(48, -49, 49);
        positions(x, 1, 0, 0, -2, 1);
        positions(x, 24, 0, 0, -25, 24);
        positions(x, 47, 0, 0, -48, 47);
    }

    private static void correctedNextFixes() {
        description("let b be the first such moment", "fixes at neighbouring moments");
        TraverseBoard x = pegs(3, 8, 100);
        x.setFix(1, 5, 6);
        x.setFix(2, 50, 60);
        x.setFix(3, 500, 600);
        place(x, 0, 0, 0);
        place(x, 1, 5, 6);
        place(x, 2, 50, 60);
        place(x, 3, 500, 600);
        x.removeFix(2);
        positions(x, 2, 5, 1000006, 252, 303);
    }

    private static void correctedGreatest() {
        description("let the error be the fix at b minus the position that one reaches from the fix at a", "greatest errors");
        TraverseBoard x = pegs(48, 16, 200);
        x.setCurrent(16, 50);
        x.setFix(48, MOST, -MOST);
        positions(x, 1, -2500000, 0, 4166666, -4166667);
        positions(x, 24, -60000000, 0, 100000000, -100000000);
        positions(x, 47, -117500000, 0, 195833333, -195833334);
        x.setFix(1, -MOST, MOST);
        positions(x, 2, -202500000, MOST, -191489362, 191489361);
        positions(x, 25, -260000000, MOST, 4255319, -4255320);
        positions(x, 47, -315000000, MOST, 191489361, -191489362);
        TraverseBoard y = pegs(48, 8, 200);
        y.setCurrent(8, 50);
        y.setFix(1, -MOST, MOST);
        y.setFix(48, MOST, -MOST);
        positions(y, 25, -MOST, 260000000, 4255319, -4255320);
        positions(y, 47, -MOST, 315000000, 191489361, -191489362);
    }

    private static void correctedWithoutFixAfter() {
        description("Otherwise the corrected position is the reckoned position");
        TraverseBoard x = pegs(48, 8, 3);
        place(x, 1, 0, 30000);
        place(x, 48, 0, 1440000);
        x.setFix(47, -5, -5);
        place(x, 48, -5, 29995);
        x.setFix(48, 0, 0);
        place(x, 48, 0, 0);
        x.removeFix(48);
        x.removeFix(47);
        place(x, 47, 0, 1410000);
    }

    private static void distanceMoments() {
        promise(22, "NO_SUCH_MOMENT if one of the moments does not exist");
        for (int bound = 0; bound < 4; bound++) {
            int few = outside(0, 0)[bound];
            int some = outside(0, 5)[bound];
            int most = outside(0, 48)[bound];
            refused("distance(" + few + ", 0)", Boundaries::fresh, x -> x.distance(few, 0), NO_SUCH_MOMENT);
            refused("distance(0, " + few + ")", Boundaries::fresh, x -> x.distance(0, few), NO_SUCH_MOMENT);
            refused("distance(" + some + ", 5)", Boundaries::sailed, x -> x.distance(some, 5), NO_SUCH_MOMENT);
            refused("distance(5, " + some + ")", Boundaries::sailed, x -> x.distance(5, some), NO_SUCH_MOMENT);
            refused("distance(" + most + ", 48)", Boundaries::full, x -> x.distance(most, 48), NO_SUCH_MOMENT);
            refused("distance(48, " + most + ")", Boundaries::full, x -> x.distance(48, most), NO_SUCH_MOMENT);
            refused("distance(" + most + ", " + most + ")", Boundaries::full, x -> x.distance(most, most), NO_SUCH_MOMENT);
        }
        due("distance(0, 5)", sailed().distance(0, 5), 846714);
        due("distance(5, 0)", sailed().distance(5, 0), 846714);
    }

    private static void distanceSame() {
        promise(22, "to: a moment, possibly the same");
        due("distance(0, 0) without pegs", fresh().distance(0, 0), 0);
        TraverseBoard x = full();
        for (int moment = 0; moment <= 48; moment++) {
            due("distance(" + moment + ", " + moment + ")", x.distance(moment, moment), 0);
        }
        due("distance(0, 48), other moments at one place", pegs(48, 31, 0).distance(0, 48), 0);
    }

    private static void distanceRoots() {
        promise(22, "Returns the greatest integer whose square is at most the sum of the squares of the differences of both coordinates");
        // The sum of the squares is a square; one more than a square; one less than a square.
        int[][] cases = {
            {0, 0, 0}, {1, 0, 1}, {2, 0, 2}, {3, 4, 5}, {200000000, 0, 200000000}, {120000000, 160000000, 200000000},
            {1, 1, 1}, {2, 1, 2}, {5, 5, 7}, {29, 29, 41}, {200000000, 1, 200000000}, {38613965, 38613965, 54608393},
            {6625109, 6625109, 9369319}, {2, 2, 2}, {12, 12, 16}, {8, 4, 8}, {70, 70, 98}, {470832, 470832, 665856},
            {15994428, 15994428, 22619536}, {93222358, 93222358, 131836322}, {199999999, 20000, 200000000},
            {199999999, 19999, 199999999}, {200000000, 200000000, 282842712}};
        for (int[] row : cases) {
            for (int turn = 0; turn < 4; turn++) {
                int north = turn % 2 == 0 ? row[0] : -row[0];
                int east = turn < 2 ? row[1] : -row[1];
                TraverseBoard x = pegs(1, 0, 0);
                x.setFix(1, north, east);
                due("distance(0, 1) of " + north + ", " + east, x.distance(0, 1), row[2]);
                due("distance(1, 0) of " + north + ", " + east, x.distance(1, 0), row[2]);
                x.setFix(1, east, north);
                due("distance(0, 1) of " + east + ", " + north, x.distance(0, 1), row[2]);
            }
        }
        TraverseBoard x = pegs(2, 0, 0);
        x.setFix(1, -112529340, 112529341);
        x.setFix(2, 112529341, -112529340);
        due("distance(1, 2), one more than a square", x.distance(1, 2), 318281039);
    }

    private static void distanceGreatest() {
        promise(22, "Returns the greatest integer", "the farthest positions");
        TraverseBoard x = pegs(2, 0, 0);
        x.setFix(1, -MOST, -MOST);
        x.setFix(2, MOST, MOST);
        due("distance(1, 2)", x.distance(1, 2), 565685424);
        due("distance(2, 1)", x.distance(2, 1), 565685424);
        for (int point = 0; point < 32; point++) {
            TraverseBoard far = pegs(48, point, 200);
            far.setCurrent(point, 50);
            int north = COMPONENTS[point][0] < 0 ? -MOST : MOST;
            int east = COMPONENTS[point][1] < 0 ? -MOST : MOST;
            far.setFix(1, -north, -east);
            far.setFix(2, north, east);
            long northApart = 2 * MOST + 46 * 250L * Math.abs(COMPONENTS[point][0]);
            long eastApart = 2 * MOST + 46 * 250L * Math.abs(COMPONENTS[point][1]);
            long sum = northApart * northApart + eastApart * eastApart;
            long got = far.distance(1, 48);
            due("distance(1, 48) towards " + point + ", its square is greater", got * got <= sum ? 1 : 0, 1);
            due("distance(1, 48) towards " + point + ", the next one's square is not", (got + 1) * (got + 1) > sum ? 1 : 0, 1);
            due("distance(48, 1) towards " + point, far.distance(48, 1), got);
        }
    }

    private static void bearingMoments() {
        promise(23, "NO_SUCH_MOMENT if one of the moments does not exist");
        for (int bound = 0; bound < 4; bound++) {
            int some = outside(0, 5)[bound];
            int most = outside(0, 48)[bound];
            refused("bearing(" + some + ", 5)", Boundaries::sailed, x -> x.bearing(some, 5), NO_SUCH_MOMENT);
            refused("bearing(5, " + some + ")", Boundaries::sailed, x -> x.bearing(5, some), NO_SUCH_MOMENT);
            refused("bearing(" + most + ", 48)", Boundaries::full, x -> x.bearing(most, 48), NO_SUCH_MOMENT);
            refused("bearing(48, " + most + ")", Boundaries::full, x -> x.bearing(48, most), NO_SUCH_MOMENT);
        }
        due("bearing(0, 5)", sailed().bearing(0, 5), 15);
    }

    private static void bearingNothing() {
        promise(23, "NOTHING if n and e are 0");
        refused("bearing(0, 0) without pegs", Boundaries::fresh, x -> x.bearing(0, 0), NOTHING);
        refused("bearing(5, 5)", Boundaries::sailed, x -> x.bearing(5, 5), NOTHING);
        refused("bearing(48, 48)", Boundaries::full, x -> x.bearing(48, 48), NOTHING);
        refused("bearing(0, 48), all at one place", () -> pegs(48, 9, 0), x -> x.bearing(0, 48), NOTHING);
        TraverseBoard x = pegs(1, 0, 0);
        x.setFix(1, 1, 0);
        due("bearing(0, 1), n is 1", x.bearing(0, 1), 0);
        due("bearing(1, 0), n is -1", x.bearing(1, 0), 16);
        x.setFix(1, 0, 1);
        due("bearing(0, 1), e is 1", x.bearing(0, 1), 8);
        due("bearing(1, 0), e is -1", x.bearing(1, 0), 24);
        x.setFix(1, 1, -1);
        due("bearing(0, 1), their sum is 0", x.bearing(0, 1), 28);
        x.setFix(1, 0, 0);
        due("bearing(0, 1), both are 0", x.bearing(0, 1), NOTHING);
    }

    private static void bearingBothErrors() {
        promise(23, "NO_SUCH_MOMENT if one of the moments does not exist; NOTHING if n and e are 0", "from is to");
        for (int bound = 0; bound < 4; bound++) {
            int few = outside(0, 0)[bound];
            int most = outside(0, 48)[bound];
            refused("bearing(" + few + ", " + few + ")", Boundaries::fresh, x -> x.bearing(few, few), NO_SUCH_MOMENT);
            refused("bearing(" + most + ", " + most + ")", Boundaries::full, x -> x.bearing(most, most), NO_SUCH_MOMENT);
            refused("bearing(0, " + few + ")", Boundaries::fresh, x -> x.bearing(0, few), NO_SUCH_MOMENT);
            refused("bearing(" + few + ", 0)", Boundaries::fresh, x -> x.bearing(few, 0), NO_SUCH_MOMENT);
        }
    }

    private static void bearingOfPoints() {
        promise(23, "the point p for which n * cos(p) + e * sin(p) is greatest");
        for (int point = 0; point < 32; point++) {
            for (int times : new int[] {1, 20000}) {
                TraverseBoard x = pegs(1, 0, 0);
                x.setFix(1, times * COMPONENTS[point][0], times * COMPONENTS[point][1]);
                due("bearing(0, 1) towards " + point, x.bearing(0, 1), point);
                due("bearing(1, 0) from " + point, x.bearing(1, 0), (point + 16) % 32);
            }
        }
    }

    /** Square to the way from one point's components to the next one's lies the direction between both points. */
    private static void bearingTies() {
        promise(23, "if there are several, the lowest");
        for (int point = 0; point < 32; point++) {
            int next = (point + 1) % 32;
            int north = 1000 * (COMPONENTS[next][1] - COMPONENTS[point][1]);
            int east = 1000 * (COMPONENTS[point][0] - COMPONENTS[next][0]);
            TraverseBoard x = pegs(1, 0, 0);
            x.setFix(1, north, east);
            due("bearing(0, 1), a tie of " + point + " and " + next, x.bearing(0, 1), Math.min(point, next));
            int northStep = east > 0 ? -1 : 1;
            int eastStep = north > 0 ? 1 : -1;
            x.setFix(1, north + northStep, east + eastStep);
            due("bearing(0, 1), clockwise of a tie of " + point + " and " + next, x.bearing(0, 1), next);
            x.setFix(1, north - northStep, east - eastStep);
            due("bearing(0, 1), short of a tie of " + point + " and " + next, x.bearing(0, 1), point);
        }
    }

    private static void bearingLeastAndGreatest() {
        promise(23, "n and e for the differences of the north and east coordinates (to minus from)", "the farthest positions");
        TraverseBoard x = pegs(2, 0, 0);
        x.setFix(1, -MOST, -MOST);
        x.setFix(2, MOST, MOST);
        due("bearing(1, 2)", x.bearing(1, 2), 4);
        due("bearing(2, 1)", x.bearing(2, 1), 20);
        x.setFix(1, MOST, -MOST);
        x.setFix(2, -MOST, MOST);
        due("bearing(1, 2)", x.bearing(1, 2), 12);
        due("bearing(2, 1)", x.bearing(2, 1), 28);
        x.setFix(1, -MOST, 0);
        x.setFix(2, MOST, 0);
        due("bearing(1, 2)", x.bearing(1, 2), 0);
        due("bearing(2, 1)", x.bearing(2, 1), 16);
        x.setFix(1, 0, -MOST);
        x.setFix(2, 0, MOST);
        due("bearing(1, 2)", x.bearing(1, 2), 8);
        due("bearing(2, 1)", x.bearing(2, 1), 24);
        due("bearing(0, 1), (0, 0) is the place of moment 0", x.bearing(0, 1), 24);
    }
}
