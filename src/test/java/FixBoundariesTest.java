/** The boundary cases of fixes, promises 16 and 17. */
final class FixBoundariesTest extends Boundaries {
    private static final int MOST = 200000000;

    public static void main(String[] args) {
        begin("FixBoundariesTest");
        fixOfMoment();
        fixOfMomentZero();
        fixNorth();
        fixEast();
        fixCount();
        fixReplaced();
        fixBothErrors();
        removeOfMoment();
        removeCount();
        removeNone();
        removeBothErrors();
        removeLeavesNothing();
        end();
    }

    private static void fixOfMoment() {
        promise(16, "moment: 1 to the number of pegs");
        TraverseBoard x = pegs(48, 0, 0);
        due("setFix(1, 3, 4)", x.setFix(1, 3, 4), 2);
        due("setFix(48, 5, 6)", x.setFix(48, 5, 6), 3);
        place(x, 0, 0, 0);
        place(x, 1, 3, 4);
        positions(x, 47, 3, 4, 4, 5);
        place(x, 48, 5, 6);
        refused("setFix(1, 3, 4) without pegs", Boundaries::fresh, board -> board.setFix(1, 3, 4), NO_SUCH_MOMENT);
        for (int moment : outside(1, 5)) {
            refused("setFix(" + moment + ", 3, 4), 5 pegs", Boundaries::sailed, board -> board.setFix(moment, 3, 4), NO_SUCH_MOMENT);
        }
        for (int moment : outside(1, 48)) {
            refused("setFix(" + moment + ", 3, 4), 48 pegs", Boundaries::full, board -> board.setFix(moment, 3, 4), NO_SUCH_MOMENT);
        }
        TraverseBoard growing = fresh();
        for (int moment = 1; moment <= 48; moment++) {
            due("setFix(" + moment + ", ..), a peg too few", growing.setFix(moment, 9, 9), NO_SUCH_MOMENT);
            growing.add(0, 0);
            due("removeFix(" + moment + "), it was refused", growing.removeFix(moment), NOTHING);
            due("setFix(" + moment + ", ..)", growing.setFix(moment, 9, 9), moment + 1);
        }
    }

    private static void fixOfMomentZero() {
        description("Moment 0 always has the fix (0, 0)");
        refused("setFix(0, 3, 4) without pegs", Boundaries::fresh, x -> x.setFix(0, 3, 4), NO_SUCH_MOMENT);
        refused("setFix(0, 0, 0)", Boundaries::full, x -> x.setFix(0, 0, 0), NO_SUCH_MOMENT);
        refused("removeFix(0) without pegs", Boundaries::fresh, x -> x.removeFix(0), NO_SUCH_MOMENT);
        refused("removeFix(0)", Boundaries::sailed, x -> x.removeFix(0), NO_SUCH_MOMENT);
        TraverseBoard x = pegs(1, 0, 0);
        x.removeLast();
        place(x, 0, 0, 0);
        due("digest(), all pegs removed", x.digest(), fresh().digest());
    }

    private static void fixNorth() {
        promise(16, "north: -200000000 to 200000000");
        TraverseBoard x = pegs(1, 0, 0);
        due("setFix(1, 200000000, 0)", x.setFix(1, MOST, 0), 2);
        place(x, 1, MOST, 0);
        due("setFix(1, -200000000, 0)", x.setFix(1, -MOST, 0), 2);
        place(x, 1, -MOST, 0);
        for (int north : outside(-MOST, MOST)) {
            refused("setFix(5, " + north + ", 0)", Boundaries::sailed, board -> board.setFix(5, north, 0), OUT_OF_RANGE);
            refused("setFix(4, " + north + ", 0), a fix is there", Boundaries::sailed, board -> board.setFix(4, north, 0), OUT_OF_RANGE);
        }
    }

    private static void fixEast() {
        promise(16, "east: -200000000 to 200000000");
        TraverseBoard x = pegs(1, 0, 0);
        due("setFix(1, 0, 200000000)", x.setFix(1, 0, MOST), 2);
        place(x, 1, 0, MOST);
        due("setFix(1, 0, -200000000)", x.setFix(1, 0, -MOST), 2);
        place(x, 1, 0, -MOST);
        for (int east : outside(-MOST, MOST)) {
            refused("setFix(5, 0, " + east + ")", Boundaries::sailed, board -> board.setFix(5, 0, east), OUT_OF_RANGE);
            refused("setFix(4, 0, " + east + "), a fix is there", Boundaries::sailed, board -> board.setFix(4, 0, east), OUT_OF_RANGE);
            refused("setFix(4, " + east + ", " + east + ")", Boundaries::sailed, board -> board.setFix(4, east, east), OUT_OF_RANGE);
        }
    }

    private static void fixCount() {
        promise(16, "Returns the number of moments with a fix, moment 0 included");
        TraverseBoard x = pegs(48, 0, 0);
        for (int moment = 48; moment >= 1; moment--) {
            due("setFix(" + moment + ", 0, 0)", x.setFix(moment, 0, 0), 50 - moment);
        }
        due("setFix(48, 1, 1), every moment has a fix", x.setFix(48, 1, 1), 49);
        x.removeLast();
        due("setFix(47, 1, 1)", x.setFix(47, 1, 1), 48);
    }

    private static void fixReplaced() {
        promise(16, "a previous fix of the moment is replaced");
        TraverseBoard x = pegs(2, 0, 0);
        due("setFix(1, 7, 8)", x.setFix(1, 7, 8), 2);
        due("setFix(1, -7, 9)", x.setFix(1, -7, 9), 2);
        place(x, 1, -7, 9);
        due("setFix(1, 0, 0)", x.setFix(1, 0, 0), 2);
        place(x, 1, 0, 0);
        due("removeFix(1)", x.removeFix(1), 1);
        due("removeFix(1), no other one is behind it", x.removeFix(1), NOTHING);
    }

    private static void fixBothErrors() {
        promise(16, "NO_SUCH_MOMENT; OUT_OF_RANGE if a coordinate is out of range", "both errors apply");
        refused("setFix(1, 200000001, 0) without pegs", Boundaries::fresh, x -> x.setFix(1, MOST + 1, 0), NO_SUCH_MOMENT);
        refused("setFix(0, 200000001, 0)", Boundaries::sailed, x -> x.setFix(0, MOST + 1, 0), NO_SUCH_MOMENT);
        refused("setFix(6, 0, -200000001)", Boundaries::sailed, x -> x.setFix(6, 0, -MOST - 1), NO_SUCH_MOMENT);
        refused("setFix(49, least, greatest)", Boundaries::full, x -> x.setFix(49, LEAST, GREATEST), NO_SUCH_MOMENT);
        refused("setFix(least, least, least)", Boundaries::full, x -> x.setFix(LEAST, LEAST, LEAST), NO_SUCH_MOMENT);
        refused("setFix(greatest, ..)", Boundaries::full, x -> x.setFix(GREATEST, GREATEST, GREATEST), NO_SUCH_MOMENT);
    }

    private static void removeOfMoment() {
        promise(17, "moment: 1 to the number of pegs");
        TraverseBoard x = pegs(48, 0, 0);
        x.setFix(1, 3, 4);
        x.setFix(48, 5, 6);
        due("removeFix(48)", x.removeFix(48), 2);
        due("removeFix(1)", x.removeFix(1), 1);
        place(x, 48, 0, 0);
        refused("removeFix(1) without pegs", Boundaries::fresh, board -> board.removeFix(1), NO_SUCH_MOMENT);
        for (int moment : outside(1, 5)) {
            refused("removeFix(" + moment + "), 5 pegs", Boundaries::sailed, board -> board.removeFix(moment), NO_SUCH_MOMENT);
        }
        for (int moment : outside(1, 48)) {
            refused("removeFix(" + moment + "), 48 pegs", Boundaries::full, board -> board.removeFix(moment), NO_SUCH_MOMENT);
        }
    }

    private static void removeCount() {
        promise(17, "Returns the number of moments with a fix that are left, moment 0 included");
        TraverseBoard x = pegs(48, 0, 0);
        for (int moment = 1; moment <= 48; moment++) {
            x.setFix(moment, moment, -moment);
        }
        for (int moment = 1; moment <= 48; moment++) {
            due("removeFix(" + moment + ")", x.removeFix(moment), 49 - moment);
        }
    }

    private static void removeNone() {
        promise(17, "NOTHING if the moment has no fix");
        refused("removeFix(5)", Boundaries::sailed, x -> x.removeFix(5), NOTHING);
        refused("removeFix(2)", Boundaries::sailed, x -> x.removeFix(2), NOTHING);
        refused("removeFix(1)", Boundaries::full, x -> x.removeFix(1), NOTHING);
        refused("removeFix(47)", Boundaries::full, x -> x.removeFix(47), NOTHING);
        TraverseBoard x = sailed();
        due("removeFix(4)", x.removeFix(4), 2);
        due("removeFix(4) again", x.removeFix(4), NOTHING);
        due("removeFix(1)", x.removeFix(1), 1);
        due("removeFix(1) again", x.removeFix(1), NOTHING);
    }

    private static void removeBothErrors() {
        promise(17, "NO_SUCH_MOMENT; NOTHING if the moment has no fix", "a moment that does not exist has none");
        TraverseBoard x = pegs(2, 0, 0);
        x.setFix(2, 3, 4);
        x.removeLast();
        due("removeFix(2), its peg was removed", x.removeFix(2), NO_SUCH_MOMENT);
        due("removeFix(1)", x.removeFix(1), NOTHING);
        due("removeFix(0), it has a fix", x.removeFix(0), NO_SUCH_MOMENT);
    }

    private static void removeLeavesNothing() {
        promise(17, "Removes the fix of a moment");
        TraverseBoard x = pegs(2, 8, 5);
        long before = x.digest();
        x.setFix(1, MOST, -MOST);
        x.setFix(2, -MOST, MOST);
        x.removeFix(1);
        positions(x, 1, 0, 50000, -MOST / 2, MOST / 2);
        x.removeFix(2);
        place(x, 1, 0, 50000);
        place(x, 2, 0, 100000);
        due("digest(), no trace of a fix", x.digest(), before);
    }
}
