/** The boundary cases of finding a lost peg, promise 24. */
final class LostBoundariesTest extends Boundaries {
    private static final int MOST = 200000000;

    public static void main(String[] args) {
        begin("LostBoundariesTest");
        pegNumber();
        notLost();
        noFixAfter();
        anotherLost();
        othersOutside();
        noSuchPegFirst();
        notLostFirst();
        noFixBeforeAnotherLost();
        fixBefore();
        fixAfter();
        leastAndGreatestResult();
        speedRange();
        pointsGoRound();
        severalSpeeds();
        severalPoints();
        allPointsOfSpeedZero();
        greatestMiss();
        lastOfFull();
        currentCounts();
        nothingChanges();
        end();
    }

    private static void pegNumber() {
        promise(24, "NO_SUCH_PEG");
        refused("findLost(0) without pegs", Boundaries::fresh, x -> x.findLost(0), NO_SUCH_PEG);
        for (int peg : outside(0, 4)) {
            refused("findLost(" + peg + "), 5 pegs", Boundaries::sailed, x -> x.findLost(peg), NO_SUCH_PEG);
        }
        for (int peg : outside(0, 47)) {
            refused("findLost(" + peg + "), 48 pegs", Boundaries::full, x -> x.findLost(peg), NO_SUCH_PEG);
        }
        TraverseBoard x = pegs(1, 0, 0);
        x.lose(0);
        x.removeLast();
        due("findLost(0), the lost peg was removed", x.findLost(0), NO_SUCH_PEG);
    }

    private static void notLost() {
        promise(24, "WRONG_STATE if the peg is not lost");
        refused("findLost(0)", Boundaries::sailed, x -> x.findLost(0), WRONG_STATE);
        refused("findLost(1)", Boundaries::sailed, x -> x.findLost(1), WRONG_STATE);
        refused("findLost(3)", Boundaries::sailed, x -> x.findLost(3), WRONG_STATE);
        refused("findLost(0)", Boundaries::full, x -> x.findLost(0), WRONG_STATE);
        refused("findLost(47)", Boundaries::full, x -> x.findLost(47), WRONG_STATE);
        TraverseBoard x = sailed();
        x.replace(2, 16, 200);
        due("findLost(2), replaced", x.findLost(2), WRONG_STATE);
        x.lose(2);
        due("findLost(2), lost again", x.findLost(2), 17200);
    }

    private static void noFixAfter() {
        promise(24, "NOTHING if there is no such b");
        refused("findLost(0)", () -> lost(1, 0), x -> x.findLost(0), NOTHING);
        refused("findLost(47)", () -> lost(48, 47), x -> x.findLost(47), NOTHING);
        TraverseBoard x = lost(3, 1);
        due("findLost(1)", x.findLost(1), NOTHING);
        x.setFix(1, 0, 0);
        due("findLost(1), a fix at its own moment", x.findLost(1), NOTHING);
        x.setFix(2, 0, 0);
        due("findLost(1), a fix at the moment after it", x.findLost(1), 0);
        x.removeFix(2);
        x.setFix(3, 0, 0);
        due("findLost(1), a fix at the last moment", x.findLost(1), 0);
        x.removeLast();
        due("findLost(1), that fix went with the last peg", x.findLost(1), NOTHING);
        x.add(0, 0);
        due("findLost(1), a new peg brings no fix", x.findLost(1), NOTHING);
    }

    private static void anotherLost() {
        promise(24, "WRONG_STATE if another of the pegs a to b - 1 is lost");
        refused("findLost(30)", Boundaries::full, x -> x.findLost(30), WRONG_STATE);
        refused("findLost(31)", Boundaries::full, x -> x.findLost(31), WRONG_STATE);
        for (int other = 2; other <= 6; other++) {
            TraverseBoard x = lost(9, 4);
            x.setFix(2, 0, 0);
            x.setFix(7, 0, 0);
            if (other != 4) {
                x.lose(other);
                due("findLost(4), " + other + " is lost, too", x.findLost(4), WRONG_STATE);
                due("findLost(" + other + "), 4 is lost, too", x.findLost(other), WRONG_STATE);
                x.replace(other, 0, 0);
            }
            due("findLost(4), the only one", x.findLost(4), 0);
        }
        TraverseBoard all = pegs(48, 0, 0);
        for (int peg = 0; peg < 48; peg++) {
            all.lose(peg);
        }
        all.setFix(48, 0, 0);
        due("findLost(0), all 48 pegs are lost", all.findLost(0), WRONG_STATE);
        due("findLost(47), all 48 pegs are lost", all.findLost(47), WRONG_STATE);
    }

    private static void othersOutside() {
        promise(24, "WRONG_STATE if another of the pegs a to b - 1 is lost", "pegs before a and from b on are none of these");
        TraverseBoard x = lost(9, 4);
        x.setFix(2, 0, 0);
        x.setFix(7, 0, 0);
        x.lose(1);
        due("findLost(4), peg a - 1 is lost", x.findLost(4), 0);
        x.lose(7);
        due("findLost(4), peg b is lost", x.findLost(4), 0);
        x.lose(0);
        x.lose(8);
        due("findLost(4), the first and the last peg are lost", x.findLost(4), 0);
        due("findLost(0), 0 and 1 are lost", x.findLost(0), WRONG_STATE);
        due("findLost(7), no fix after it", x.findLost(7), NOTHING);
        x.setFix(4, 0, 0);
        x.setFix(5, 10000, 0);
        x.lose(3);
        x.lose(5);
        due("findLost(4), fixes before and behind it, the next pegs are lost", x.findLost(4), 1);
        TraverseBoard all = pegs(48, 0, 0);
        for (int peg = 0; peg < 48; peg++) {
            all.lose(peg);
            all.setFix(peg + 1, 0, 10000 * (peg + 1));
        }
        due("findLost(0), a fix at every moment", all.findLost(0), 8001);
        due("findLost(24), a fix at every moment", all.findLost(24), 8001);
        due("findLost(47), a fix at every moment", all.findLost(47), 8001);
    }

    private static void noSuchPegFirst() {
        description("Where several errors apply, the one that is listed first is returned", "findLost, NO_SUCH_PEG and NOTHING");
        TraverseBoard x = pegs(2, 0, 0);
        x.lose(0);
        x.lose(1);
        due("findLost(2), no such peg, no fix, others lost", x.findLost(2), NO_SUCH_PEG);
        due("findLost(-1), no such peg, no fix, others lost", x.findLost(-1), NO_SUCH_PEG);
    }

    private static void notLostFirst() {
        description("Where several errors apply, the one that is listed first is returned", "findLost, WRONG_STATE and NOTHING");
        refused("findLost(0), not lost, no fix", () -> pegs(1, 0, 0), x -> x.findLost(0), WRONG_STATE);
        refused("findLost(4), not lost, no fix", Boundaries::sailed, x -> x.findLost(4), WRONG_STATE);
        refused("findLost(0), not lost, no fix, another lost", () -> lost(2, 1), x -> x.findLost(0), WRONG_STATE);
    }

    private static void noFixBeforeAnotherLost() {
        description("Where several errors apply, the one that is listed first is returned", "findLost, NOTHING and WRONG_STATE");
        TraverseBoard x = lost(3, 1);
        x.lose(0);
        x.lose(2);
        due("findLost(0), no fix, others lost", x.findLost(0), NOTHING);
        due("findLost(1), no fix, others lost", x.findLost(1), NOTHING);
        due("findLost(2), no fix, others lost", x.findLost(2), NOTHING);
        x.setFix(2, 0, 0);
        due("findLost(1), a fix, another lost", x.findLost(1), WRONG_STATE);
        due("findLost(2), no fix", x.findLost(2), NOTHING);
    }

    private static void fixBefore() {
        promise(24, "Let a be the last moment with a fix that is not after the moment whose number is the number of the peg");
        TraverseBoard x = lost(3, 1);
        x.replace(0, 8, 100);
        x.replace(2, 8, 50);
        x.setFix(3, 70000, 1500000);
        due("findLost(1) from moment 0", x.findLost(1), 7);
        x.setFix(1, 40000, 1000000);
        due("findLost(1) from its own moment", x.findLost(1), 3);
        x.setFix(1, 70000, 900000);
        due("findLost(1) from its own moment, elsewhere", x.findLost(1), 8010);
        x.setFix(2, 30000, 900000);
        due("findLost(1), a fix after the peg is no a", x.findLost(1), 16004);
    }

    private static void fixAfter() {
        promise(24, "and b the first moment with a fix after that");
        TraverseBoard x = lost(4, 1);
        x.setFix(4, 90000, 0);
        due("findLost(1) to moment 4", x.findLost(1), 9);
        x.setFix(3, 0, 80000);
        due("findLost(1) to moment 3", x.findLost(1), 8008);
        x.setFix(2, -70000, 0);
        due("findLost(1) to moment 2", x.findLost(1), 16007);
        x.setFix(1, -70000, 60000);
        due("findLost(1) from moment 1 to 2", x.findLost(1), 24006);
        x.removeFix(2);
        x.removeFix(3);
        due("findLost(1) from moment 1 to 4", x.findLost(1), 30017);
    }

    private static void leastAndGreatestResult() {
        promise(24, "Returns 1000 * point + speed");
        TraverseBoard x = lost(1, 0);
        x.setFix(1, 0, 0);
        due("findLost(0), the least", x.findLost(0), 0);
        x.setFix(1, 200 * 9808, -200 * 1951);
        due("findLost(0), the greatest", x.findLost(0), 31200);
        x.setFix(1, 9808, -1951);
        due("findLost(0), point 31, speed 1", x.findLost(0), 31001);
        x.setFix(1, 2000000, 0);
        due("findLost(0), point 0, speed 200", x.findLost(0), 200);
    }

    private static void speedRange() {
        promise(24, "For each point and each speed, the peg is given them", "speeds 0 to 200");
        TraverseBoard x = lost(1, 0);
        for (int speed = 0; speed <= 205; speed++) {
            x.setFix(1, 0, -10000 * speed);
            due("findLost(0), " + speed + " to the west", x.findLost(0), speed == 0 ? 0 : 24000 + Math.min(speed, 200));
        }
    }

    private static void pointsGoRound() {
        promise(24, "(its leeway stays)", "point numbers go round");
        foundWithLeeway(1, 0, 31);
        foundWithLeeway(2, 0, 30);
        foundWithLeeway(2, 1, 31);
        foundWithLeeway(-1, 31, 0);
        foundWithLeeway(-2, 31, 1);
        foundWithLeeway(-2, 30, 0);
        foundWithLeeway(0, 31, 31);
        foundWithLeeway(0, 0, 0);
        for (int leeway = -2; leeway <= 2; leeway++) {
            for (int made = 0; made < 32; made++) {
                foundWithLeeway(leeway, made, (made - leeway + 32) % 32);
            }
        }
    }

    /** The ship went towards the point that was made; with the leeway, the peg said another one. */
    private static void foundWithLeeway(int leeway, int made, int point) {
        TraverseBoard x = pegs(1, made, 150);
        int north = (int) x.reckonedNorth(1);
        int east = (int) x.reckonedEast(1);
        x.lose(0);
        x.setLeeway(0, leeway);
        x.setFix(1, north, east);
        due("findLost(0), leeway " + leeway + ", made good " + made, x.findLost(0), 1000L * point + 150);
        due("setLeeway(0, 0), it stayed", x.setLeeway(0, 0), leeway);
    }

    private static void severalSpeeds() {
        promise(24, "if there are several, those with the lowest speed");
        for (int speed = 0; speed < 200; speed++) {
            TraverseBoard x = lost(1, 0);
            x.setFix(1, 10000 * speed + 5000, 0);
            due("findLost(0), half way from " + speed, x.findLost(0), speed);
            x.setFix(1, 10000 * speed + 5001, 0);
            due("findLost(0), beyond half way from " + speed, x.findLost(0), speed + 1);
        }
        TraverseBoard x = lost(1, 0);
        x.setFix(1, 10000 * 199 + 4999, 0);
        due("findLost(0), short of half way from 199", x.findLost(0), 199);
        x.setFix(1, 0, 15000);
        due("findLost(0), half way to the east", x.findLost(0), 8001);
    }

    private static void severalPoints() {
        promise(24, "and of these the lowest point");
        tieOfPoints(0, 2, 19808, 1951);
        tieOfPoints(4, 2, 11383, 13871);
        tieOfPoints(12, 2, -16901, 13871);
        tieOfPoints(23, 2, -2335, -23710);
        tieOfPoints(31, 2, 19808, -1951);
    }

    /** The place lies half way between the one point's place at the speed and the next one's. */
    private static void tieOfPoints(int one, int speed, int north, int east) {
        for (int leeway = -2; leeway <= 2; leeway++) {
            TraverseBoard x = lost(1, 0);
            x.setLeeway(0, leeway);
            x.setFix(1, north, east);
            int first = (one - leeway + 32) % 32;
            int second = (one + 1 - leeway + 32) % 32;
            due("findLost(0), a tie of " + first + " and " + second, x.findLost(0), 1000L * Math.min(first, second) + speed);
        }
    }

    private static void allPointsOfSpeedZero() {
        promise(24, "and of these the lowest point", "with speed 0 all points are alike");
        for (int leeway = -2; leeway <= 2; leeway++) {
            TraverseBoard x = lost(1, 0);
            x.setLeeway(0, leeway);
            for (int point = 0; point < 32; point += 8) {
                int north = point == 0 ? 1 : point == 16 ? -1 : 0;
                int east = point == 8 ? 1 : point == 24 ? -1 : 0;
                x.setFix(1, 5000 * north, 5000 * east);
                due("findLost(0), leeway " + leeway + ", speeds 0 and 1 alike", x.findLost(0), 0);
                x.setFix(1, 5001 * north, 5001 * east);
                due("findLost(0), leeway " + leeway + ", speed 1", x.findLost(0), 1000L * ((point - leeway + 32) % 32) + 1);
            }
        }
    }

    private static void greatestMiss() {
        promise(24, "The point and the speed with the least miss are taken", "the greatest misses");
        TraverseBoard x = pegs(48, 16, 200);
        x.setCurrent(16, 50);
        x.lose(20);
        x.setFix(1, -MOST, -MOST);
        x.setFix(48, MOST, MOST);
        due("findLost(20), far to the north-east", x.findLost(20), 3200);
        x.setFix(1, MOST, MOST);
        x.setFix(48, -MOST, -MOST);
        due("findLost(20), far to the south-west", x.findLost(20), 21200);
        TraverseBoard y = pegs(48, 0, 200);
        y.setCurrent(0, 50);
        y.lose(47);
        y.setFix(1, MOST, 0);
        y.setFix(48, -MOST, 0);
        due("findLost(47), far to the south", y.findLost(47), 16200);
        y.setFix(1, 0, MOST);
        y.setFix(48, 0, -MOST);
        due("findLost(47), far to the west", y.findLost(47), 23200);
    }

    private static void lastOfFull() {
        promise(24, "by the legs of the pegs a to b - 1", "48 pegs, one fix at the last moment");
        for (int peg : new int[] {0, 23, 47}) {
            TraverseBoard x = pegs(48, 8, 100);
            x.lose(peg);
            x.setFix(48, 0, 48000000);
            due("findLost(" + peg + ")", x.findLost(peg), 8100);
            x.setFix(48, 0, 45000000);
            due("findLost(" + peg + "), back to the west", x.findLost(peg), 24200);
        }
        due("findLost(10)", full().findLost(10), 14200);
    }

    private static void currentCounts() {
        promise(24, "by the legs of the pegs a to b - 1", "the current moves the lost peg, too");
        TraverseBoard x = lost(1, 0);
        x.setCurrent(8, 50);
        x.setFix(1, 0, 500000);
        due("findLost(0), moved by the current alone", x.findLost(0), 0);
        x.setFix(1, 0, 0);
        due("findLost(0), against the current", x.findLost(0), 24050);
        x.setFix(1, 0, 2500000);
        due("findLost(0), with the current", x.findLost(0), 8200);
    }

    private static void nothingChanges() {
        promise(24, "Nothing changes");
        unchanged("findLost(2)", Boundaries::sailed, x -> x.findLost(2), 17200);
        unchanged("findLost(10)", Boundaries::full, x -> x.findLost(10), 14200);
        TraverseBoard x = sailed();
        due("findLost(2)", x.findLost(2), 17200);
        due("findLost(2) again", x.findLost(2), 17200);
        due("pointOf(2)", x.pointOf(2), WRONG_STATE);
        due("speedOf(2)", x.speedOf(2), WRONG_STATE);
        positions(x, 3, 1044456, 176190, -783150, 88894);
    }

    /** Pegs without speed, of which one is lost. */
    private static TraverseBoard lost(int count, int peg) {
        TraverseBoard x = pegs(count, 0, 0);
        x.lose(peg);
        return x;
    }
}
