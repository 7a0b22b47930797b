import java.math.BigInteger;
import java.util.ArrayList;
import java.util.List;
import java.util.TreeMap;

/**
 * The document's words once more, by other means than the class has: valid texts are listed and not parsed,
 * lost pegs are found by giving them every value, and big numbers take the roots.
 */
final class Model {
    static final long OUT_OF_RANGE = -9000000000000000001L;
    static final long NO_SUCH_PEG = -9000000000000000002L;
    static final long NO_SUCH_MOMENT = -9000000000000000003L;
    static final long FULL = -9000000000000000004L;
    static final long INVALID_PEG = -9000000000000000005L;
    static final long WRONG_STATE = -9000000000000000006L;
    static final long NOTHING = -9000000000000000007L;

    static final List<String> NAMES = List.of(
        "N", "NbE", "NNE", "NEbN", "NE", "NEbE", "ENE", "EbN", "E", "EbS", "ESE", "SEbE", "SE", "SEbS", "SSE", "SbE",
        "S", "SbW", "SSW", "SWbS", "SW", "SWbW", "WSW", "WbS", "W", "WbN", "WNW", "NWbW", "NW", "NWbN", "NNW", "NbW");

    private static final List<String> TEXTS = texts();

    private static final class Peg {
        int point;
        int speed;
        int leeway;
        boolean lost;
    }

    private record Place(long north, long east) {
        Place moved(long units, int point) {
            return new Place(north + units * cos(point), east + units * sin(point));
        }
    }

    private final List<Peg> pegs = new ArrayList<>();
    private final TreeMap<Integer, Place> fixes = new TreeMap<>();
    private String buffer = "";
    private int set;
    private int drift;

    Model() {
        fixes.put(0, new Place(0, 0));
    }

    private static List<String> texts() {
        List<String> texts = new ArrayList<>();
        for (String name : NAMES) {
            for (int speed = 0; speed <= 200; speed++) {
                texts.add(name + " " + speed);
            }
        }
        return texts;
    }

    static int sin(int point) {
        int p = Math.floorMod(point, 32);
        if (p > 16) {
            return -sin(p - 16);
        }
        return p > 8 ? sin(16 - p) : new int[] {0, 1951, 3827, 5556, 7071, 8315, 9239, 9808, 10000}[p];
    }

    static int cos(int point) {
        return sin(point + 8);
    }

    long append(int ch) {
        if (ch < 32 || ch > 126) {
            return OUT_OF_RANGE;
        }
        if (buffer.length() == 12) {
            return FULL;
        }
        buffer += (char) ch;
        return buffer.length();
    }

    long clearBuffer() {
        int length = buffer.length();
        buffer = "";
        return length;
    }

    long errorPosition() {
        int position = 0;
        while (position < buffer.length() && begins(buffer.substring(0, position + 1))) {
            position++;
        }
        return position;
    }

    private static boolean begins(String start) {
        return TEXTS.stream().anyMatch(text -> text.startsWith(start));
    }

    long addFromBuffer() {
        int text = TEXTS.indexOf(buffer);
        if (text < 0) {
            return INVALID_PEG;
        }
        long answer = add(text / 201, text % 201);
        if (answer != FULL) {
            buffer = "";
        }
        return answer;
    }

    long add(int point, int speed) {
        if (badPeg(point, speed)) {
            return OUT_OF_RANGE;
        }
        if (pegs.size() == 48) {
            return FULL;
        }
        Peg peg = new Peg();
        peg.point = point;
        peg.speed = speed;
        pegs.add(peg);
        return pegs.size() - 1;
    }

    private static boolean badPeg(int point, int speed) {
        return point < 0 || point > 31 || speed < 0 || speed > 200;
    }

    private boolean noPeg(int peg) {
        return peg < 0 || peg >= pegs.size();
    }

    long replace(int peg, int point, int speed) {
        if (noPeg(peg)) {
            return NO_SUCH_PEG;
        }
        if (badPeg(point, speed)) {
            return OUT_OF_RANGE;
        }
        Peg replaced = pegs.get(peg);
        long answer = replaced.lost ? 1 : 0;
        replaced.point = point;
        replaced.speed = speed;
        replaced.lost = false;
        return answer;
    }

    long removeLast() {
        if (pegs.isEmpty()) {
            return NOTHING;
        }
        fixes.remove(pegs.size());
        pegs.remove(pegs.size() - 1);
        return pegs.size();
    }

    long lose(int peg) {
        if (noPeg(peg)) {
            return NO_SUCH_PEG;
        }
        if (pegs.get(peg).lost) {
            return WRONG_STATE;
        }
        pegs.get(peg).lost = true;
        return pegs.stream().filter(each -> each.lost).count();
    }

    long setLeeway(int peg, int leeway) {
        if (noPeg(peg)) {
            return NO_SUCH_PEG;
        }
        if (leeway < -2 || leeway > 2) {
            return OUT_OF_RANGE;
        }
        int previous = pegs.get(peg).leeway;
        pegs.get(peg).leeway = leeway;
        return previous;
    }

    long setCurrent(int newSet, int newDrift) {
        if (newSet < 0 || newSet > 31 || newDrift < 0 || newDrift > 50) {
            return OUT_OF_RANGE;
        }
        int previous = drift;
        set = newSet;
        drift = newDrift;
        return previous;
    }

    long pegCount() {
        return pegs.size();
    }

    long pointOf(int peg) {
        if (noPeg(peg)) {
            return NO_SUCH_PEG;
        }
        return pegs.get(peg).lost ? WRONG_STATE : pegs.get(peg).point;
    }

    long speedOf(int peg) {
        if (noPeg(peg)) {
            return NO_SUCH_PEG;
        }
        return pegs.get(peg).lost ? WRONG_STATE : pegs.get(peg).speed;
    }

    long speedTowards(int point) {
        if (point < 0 || point > 31) {
            return OUT_OF_RANGE;
        }
        return pegs.stream().filter(each -> !each.lost && each.point == point).mapToLong(each -> each.speed).sum();
    }

    long setFix(int moment, int north, int east) {
        if (moment < 1 || moment > pegs.size()) {
            return NO_SUCH_MOMENT;
        }
        if (Math.abs((long) north) > 200000000 || Math.abs((long) east) > 200000000) {
            return OUT_OF_RANGE;
        }
        fixes.put(moment, new Place(north, east));
        return fixes.size();
    }

    long removeFix(int moment) {
        if (moment < 1 || moment > pegs.size()) {
            return NO_SUCH_MOMENT;
        }
        return fixes.remove(moment) == null ? NOTHING : fixes.size();
    }

    private Place sailed(Place start, int from, int to) {
        Place place = start;
        for (Peg peg : pegs.subList(from, to)) {
            if (!peg.lost) {
                place = place.moved(peg.speed, peg.point + peg.leeway);
            }
            place = place.moved(drift, set);
        }
        return place;
    }

    private boolean noMoment(int moment) {
        return moment < 0 || moment > pegs.size();
    }

    private Place reckoned(int moment) {
        int a = fixes.floorKey(moment);
        return sailed(fixes.get(a), a, moment);
    }

    private Place corrected(int moment) {
        if (fixes.containsKey(moment)) {
            return fixes.get(moment);
        }
        Place reckoned = reckoned(moment);
        Integer b = fixes.higherKey(moment);
        if (b == null) {
            return reckoned;
        }
        int a = fixes.floorKey(moment);
        Place reached = sailed(fixes.get(a), a, b);
        long north = (fixes.get(b).north - reached.north) * (moment - a);
        long east = (fixes.get(b).east - reached.east) * (moment - a);
        return new Place(reckoned.north + Math.floorDiv(north, (long) (b - a)), reckoned.east + Math.floorDiv(east, (long) (b - a)));
    }

    long reckonedNorth(int moment) {
        return noMoment(moment) ? NO_SUCH_MOMENT : reckoned(moment).north;
    }

    long reckonedEast(int moment) {
        return noMoment(moment) ? NO_SUCH_MOMENT : reckoned(moment).east;
    }

    long correctedNorth(int moment) {
        return noMoment(moment) ? NO_SUCH_MOMENT : corrected(moment).north;
    }

    long correctedEast(int moment) {
        return noMoment(moment) ? NO_SUCH_MOMENT : corrected(moment).east;
    }

    long distance(int from, int to) {
        if (noMoment(from) || noMoment(to)) {
            return NO_SUCH_MOMENT;
        }
        BigInteger north = BigInteger.valueOf(corrected(to).north - corrected(from).north);
        BigInteger east = BigInteger.valueOf(corrected(to).east - corrected(from).east);
        return north.pow(2).add(east.pow(2)).sqrt().longValueExact();
    }

    long bearing(int from, int to) {
        if (noMoment(from) || noMoment(to)) {
            return NO_SUCH_MOMENT;
        }
        long north = corrected(to).north - corrected(from).north;
        long east = corrected(to).east - corrected(from).east;
        if (north == 0 && east == 0) {
            return NOTHING;
        }
        int best = 31;
        for (int p = 30; p >= 0; p--) {
            if (north * cos(p) + east * sin(p) >= north * cos(best) + east * sin(best)) {
                best = p;
            }
        }
        return best;
    }

    long findLost(int number) {
        if (noPeg(number)) {
            return NO_SUCH_PEG;
        }
        Peg peg = pegs.get(number);
        if (!peg.lost) {
            return WRONG_STATE;
        }
        int a = fixes.floorKey(number);
        Integer b = fixes.higherKey(number);
        if (b == null) {
            return NOTHING;
        }
        if (pegs.subList(a, b).stream().anyMatch(each -> each.lost && each != peg)) {
            return WRONG_STATE;
        }
        return likeliest(peg, a, b);
    }

    private long likeliest(Peg peg, int a, int b) {
        Place others = sailed(fixes.get(a), a, b);
        long best = -1;
        long least = Long.MAX_VALUE;
        for (int speed = 0; speed <= 200; speed++) {
            for (int point = 0; point < 32; point++) {
                Place reached = others.moved(speed, point + peg.leeway);
                long north = fixes.get(b).north - reached.north;
                long east = fixes.get(b).east - reached.east;
                if (north * north + east * east < least) {
                    least = north * north + east * east;
                    best = 1000L * point + speed;
                }
            }
        }
        return best;
    }

    long digest() {
        List<Long> values = new ArrayList<>();
        values.add(pegCount());
        for (int peg = 0; peg < pegs.size(); peg++) {
            values.addAll(List.of(pointOf(peg), speedOf(peg), (long) pegs.get(peg).leeway));
        }
        values.addAll(List.of((long) set, (long) drift));
        for (int moment = 0; moment <= pegs.size(); moment++) {
            values.addAll(List.of(fixes.containsKey(moment) ? 1L : 0L, reckonedNorth(moment), reckonedEast(moment),
                correctedNorth(moment), correctedEast(moment)));
        }
        values.addAll(List.of(distance(0, pegs.size()), bearing(0, pegs.size())));
        for (int peg = 0; peg < pegs.size(); peg++) {
            if (pegs.get(peg).lost) {
                values.add(findLost(peg));
                break;
            }
        }
        values.add((long) buffer.length());
        buffer.chars().forEach(ch -> values.add((long) ch));
        return values.stream().reduce(1811L, (hash, value) -> 31 * hash + value);
    }
}
