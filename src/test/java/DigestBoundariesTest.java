import java.math.BigInteger;
import java.util.ArrayList;
import java.util.List;

/** The boundary cases of the digest, promise 25, and of an object's 512 calls. */
final class DigestBoundariesTest extends Boundaries {
    public static void main(String[] args) {
        begin("DigestBoundariesTest");
        digestOfNone();
        digestOfSome();
        digestOfFull();
        hashOverflows();
        errorCodesAreValues();
        firstLostPeg();
        buffer();
        greatestPositions();
        digestChangesNothing();
        emptiedIsLikeNew();
        lastCallOfPegs();
        lastCallOfText();
        lastCallOfFixes();
        lastCallOfChanges();
        lastCallOfQuestions();
        end();
    }

    private static void digestOfNone() {
        promise(25, "Computes a hash of the whole state", "no pegs");
        due("digest()", fresh().digest(), 6822424645125933843L);
        due("digest() by its values", fresh().digest(), hash(0, 0, 0, 1, 0, 0, 0, 0, 0, NOTHING, 0));
    }

    private static void digestOfSome() {
        promise(25, "Computes a hash of the whole state", "5 pegs");
        due("digest()", sailed().digest(), -5458055445106864404L);
        due("digest() by its values", sailed().digest(), hash(5, 31, 120, 2, 7, 0, 0, WRONG_STATE, WRONG_STATE, -1,
            31, 15, -2, 0, 60, 0, 5, 13, 1, 0, 0, 0, 0, 1, 900000, -40000, 900000, -40000, 0, 972228, 68095, 58425, 24447,
            0, 1044456, 176190, -783150, 88894, 1, -1500000, 70001, -1500000, 70001, 0, -827772, 178096, -827772, 178096,
            846714, 15, 17200, 7, 78, 69, 98, 78, 32, 50, 48));
    }

    private static void digestOfFull() {
        promise(25, "Computes a hash of the whole state", "48 pegs and a full buffer");
        TraverseBoard x = full();
        due("digest()", x.digest(), -23211624806306056L);
        List<Long> values = new ArrayList<>(List.of(48L));
        for (int peg = 0; peg < 48; peg++) {
            boolean lost = peg == 10 || peg == 30 || peg == 31;
            values.addAll(List.of(lost ? WRONG_STATE : 7 * peg % 32, lost ? WRONG_STATE : 37 * peg % 201, peg % 5 - 2L));
        }
        values.addAll(List.of(27L, 50L));
        for (int moment = 0; moment <= 48; moment++) {
            boolean fixed = moment == 0 || moment == 12 || moment == 29 || moment == 33 || moment == 48;
            values.addAll(List.of(fixed ? 1L : 0L, x.reckonedNorth(moment), x.reckonedEast(moment),
                x.correctedNorth(moment), x.correctedEast(moment)));
        }
        values.addAll(List.of(x.distance(0, 48), x.bearing(0, 48), x.findLost(10), 12L));
        "NbW 19999999".chars().forEach(ch -> values.add((long) ch));
        due("digest() by its values", x.digest(), hash(values.stream().mapToLong(value -> value).toArray()));
    }

    private static void hashOverflows() {
        promise(25, "the hash becomes 31 * hash + v, in long arithmetic with overflow");
        TraverseBoard x = fresh();
        long least = x.digest();
        long greatest = x.digest();
        List<Long> values = new ArrayList<>(List.of(0L, 0L, 0L, 1L, 0L, 0L, 0L, 0L, 0L, NOTHING, 0L));
        for (int length = 1; length <= 12; length++) {
            x.append(90 + length);
            values.set(10, (long) length);
            values.add(90L + length);
            due("digest(), " + length + " characters", x.digest(), hash(values.stream().mapToLong(value -> value).toArray()));
            least = Math.min(least, x.digest());
            greatest = Math.max(greatest, x.digest());
        }
        due("a digest is below 0", least < 0 ? 1 : 0, 1);
        due("a digest is above 0", greatest > 0 ? 1 : 0, 1);
    }

    private static void errorCodesAreValues() {
        promise(25, "Where a method returns an error code, the code is the value");
        TraverseBoard x = pegs(1, 9, 9);
        x.lose(0);
        due("digest(), the peg is lost, no bearing, no fix", x.digest(), hash(1, WRONG_STATE, WRONG_STATE, 0, 0, 0,
            1, 0, 0, 0, 0, 0, 0, 0, 0, 0, 0, NOTHING, NOTHING, 0));
        x.setFix(1, 0, 10000);
        due("digest(), the peg can be found", x.digest(), hash(1, WRONG_STATE, WRONG_STATE, 0, 0, 0,
            1, 0, 0, 0, 0, 1, 0, 10000, 0, 10000, 10000, 8, 8001, 0));
        x.add(0, 0);
        x.lose(1);
        x.removeFix(1);
        x.setFix(2, 0, 0);
        due("digest(), another peg is lost", x.digest(), hash(2, WRONG_STATE, WRONG_STATE, 0, WRONG_STATE, WRONG_STATE, 0, 0, 0,
            1, 0, 0, 0, 0, 0, 0, 0, 0, 0, 1, 0, 0, 0, 0, 0, NOTHING, WRONG_STATE, 0));
    }

    private static void firstLostPeg() {
        promise(25, "findLost of the first lost peg, if there is a lost peg");
        TraverseBoard x = pegs(2, 0, 0);
        x.setFix(1, 0, 20000);
        x.setFix(2, 30000, 20000);
        long[] none = {2, 0, 0, 0, 0, 0, 0, 0, 0, 1, 0, 0, 0, 0, 1, 0, 20000, 0, 20000, 1, 30000, 20000, 30000, 20000, 36055, 3, 0};
        due("digest(), no lost peg", x.digest(), hash(none));
        x.lose(1);
        due("digest(), the last peg is lost", x.digest(), hash(2, 0, 0, 0, WRONG_STATE, WRONG_STATE, 0, 0, 0,
            1, 0, 0, 0, 0, 1, 0, 20000, 0, 20000, 1, 30000, 20000, 30000, 20000, 36055, 3, 3, 0));
        x.lose(0);
        due("digest(), both pegs are lost", x.digest(), hash(2, WRONG_STATE, WRONG_STATE, 0, WRONG_STATE, WRONG_STATE, 0, 0, 0,
            1, 0, 0, 0, 0, 1, 0, 20000, 0, 20000, 1, 30000, 20000, 30000, 20000, 36055, 3, 8002, 0));
        x.replace(0, 0, 0);
        x.replace(1, 0, 0);
        due("digest(), both pegs are found", x.digest(), hash(none));
        x.lose(1);
        x.removeLast();
        due("digest(), the lost peg was removed", x.digest(), hash(1, 0, 0, 0, 0, 0,
            1, 0, 0, 0, 0, 1, 0, 20000, 0, 20000, 20000, 8, 0));
    }

    private static void buffer() {
        promise(25, "the length of the buffer and the code of each character in it");
        TraverseBoard x = fresh();
        x.append(32);
        x.append(126);
        due("digest(), the least and the greatest code", x.digest(), hash(0, 0, 0, 1, 0, 0, 0, 0, 0, NOTHING, 2, 32, 126));
        x.clearBuffer();
        due("digest(), an emptied buffer", x.digest(), hash(0, 0, 0, 1, 0, 0, 0, 0, 0, NOTHING, 0));
        for (int length = 1; length <= 12; length++) {
            x.append(48);
        }
        x.append(49);
        due("digest(), a full buffer", x.digest(), hash(0, 0, 0, 1, 0, 0, 0, 0, 0, NOTHING, 12,
            48, 48, 48, 48, 48, 48, 48, 48, 48, 48, 48, 48));
    }

    private static void greatestPositions() {
        promise(25, "for each moment 1 or 0 for a fix or none, reckonedNorth, reckonedEast, correctedNorth, correctedEast", "the greatest");
        TraverseBoard x = pegs(2, 16, 200);
        x.setCurrent(16, 50);
        x.setFix(1, -200000000, 200000000);
        due("digest()", x.digest(), hash(2, 16, 200, 0, 16, 200, 0, 16, 50, 1, 0, 0, 0, 0,
            1, -200000000, 200000000, -200000000, 200000000, 0, -202500000, 200000000, -202500000, 200000000, 284615969, 12, 0));
    }

    private static void digestChangesNothing() {
        promise(25, "Returns the hash", "and changes nothing");
        unchanged("digest()", Boundaries::fresh, x -> x.digest(), 6822424645125933843L);
        unchanged("digest()", Boundaries::sailed, x -> x.digest(), -5458055445106864404L);
        unchanged("digest()", Boundaries::full, x -> x.digest(), -23211624806306056L);
    }

    private static void emptiedIsLikeNew() {
        promise(25, "Computes a hash of the whole state", "a full board emptied again");
        TraverseBoard x = full();
        for (int peg = 0; peg < 48; peg++) {
            x.removeLast();
        }
        x.setCurrent(0, 0);
        x.clearBuffer();
        due("digest()", x.digest(), 6822424645125933843L);
        TraverseBoard twin = fresh();
        for (int peg = 0; peg < 48; peg++) {
            due("add(1, 1)", x.add(1, 1), twin.add(1, 1));
            due("digest() with pegs again", x.digest(), twin.digest());
        }
    }

    private static void lastCallOfPegs() {
        description("An object is used for at most 512 calls", "pegs added and removed");
        TraverseBoard x = fresh();
        for (int call = 1; call <= MAX_CALLS - 2; call += 2) {
            due("add(31, 200), call " + call, x.add(31, 200), 0);
            due("removeLast(), call " + (call + 1), x.removeLast(), 0);
        }
        due("add(31, 200), call 511", x.add(31, 200), 0);
        due("digest(), call 512", x.digest(), hash(1, 31, 200, 0, 0, 0, 1, 0, 0, 0, 0,
            0, 1961600, -390200, 1961600, -390200, 2000032, 31, 0));
    }

    private static void lastCallOfText() {
        description("An object is used for at most 512 calls", "characters");
        TraverseBoard x = fresh();
        for (int call = 1; call <= MAX_CALLS - 2; call++) {
            due("append('N'), call " + call, x.append('N'), call <= 12 ? call : FULL);
        }
        due("errorPosition(), call 511", x.errorPosition(), 2);
        due("clearBuffer(), call 512", x.clearBuffer(), 12);
        TraverseBoard y = fresh();
        for (int peg = 0; peg < 48; peg++) {
            y.append('W');
            y.append(' ');
            y.append('7');
            due("addFromBuffer(), call " + (4 * peg + 4), y.addFromBuffer(), peg);
        }
        for (int call = 193; call <= MAX_CALLS - 1; call++) {
            due("addFromBuffer(), call " + call, y.addFromBuffer(), INVALID_PEG);
        }
        due("reckonedEast(48), call 512", y.reckonedEast(48), -48 * 70000);
    }

    private static void lastCallOfFixes() {
        description("An object is used for at most 512 calls", "fixes");
        TraverseBoard x = pegs(48, 0, 0);
        for (int call = 49; call <= MAX_CALLS - 4; call++) {
            int moment = call % 48 + 1;
            due("setFix(" + moment + ", ..), call " + call, x.setFix(moment, call, -call), Math.min(call - 47, 49));
        }
        due("removeFix(24), call 509", x.removeFix(24), 48);
        due("removeFix(24), call 510", x.removeFix(24), NOTHING);
        due("reckonedNorth(24), call 511", x.reckonedNorth(24), 502);
        due("reckonedEast(24), call 512", x.reckonedEast(24), -502);
    }

    private static void lastCallOfChanges() {
        description("An object is used for at most 512 calls", "pegs changed");
        TraverseBoard x = pegs(2, 0, 0);
        for (int call = 3; call <= MAX_CALLS - 5; call += 4) {
            due("lose(1), call " + call, x.lose(1), 1);
            due("replace(1, 8, 20), call " + (call + 1), x.replace(1, 8, 20), 1);
            due("setLeeway(1, 2), call " + (call + 2), x.setLeeway(1, 2), call == 3 ? 0 : 2);
            due("setCurrent(31, 50), call " + (call + 3), x.setCurrent(31, 50), call == 3 ? 0 : 50);
        }
        due("pointOf(1), call 511", x.pointOf(1), 8);
        due("reckonedNorth(2), call 512", x.reckonedNorth(2), -20 * 3827 + 100 * 9808);
    }

    private static void lastCallOfQuestions() {
        description("An object is used for at most 512 calls", "questions");
        TraverseBoard x = sailed();
        int callsOfSailed = 19;
        for (int call = callsOfSailed + 1; call <= MAX_CALLS; call++) {
            if (call % 2 == 0) {
                due("findLost(2), call " + call, x.findLost(2), 17200);
            } else {
                due("digest(), call " + call, x.digest(), -5458055445106864404L);
            }
        }
    }

    /** The hash by numbers without a bound, brought back into a long at the end. */
    private static long hash(long... values) {
        BigInteger hash = BigInteger.valueOf(1811);
        for (long value : values) {
            hash = hash.multiply(BigInteger.valueOf(31)).add(BigInteger.valueOf(value));
        }
        return hash.longValue();
    }
}
