import java.util.List;
import java.util.function.Supplier;
import java.util.function.ToLongFunction;

/**
 * What the tests of the boundary cases share: boards to start from, and what shows that a refused call changes
 * nothing. Each method of those tests is about one bound and quotes the document's sentence that names it.
 */
abstract class Boundaries {
    static final long OUT_OF_RANGE = -9000000000000000001L;
    static final long NO_SUCH_PEG = -9000000000000000002L;
    static final long NO_SUCH_MOMENT = -9000000000000000003L;
    static final long FULL = -9000000000000000004L;
    static final long INVALID_PEG = -9000000000000000005L;
    static final long WRONG_STATE = -9000000000000000006L;
    static final long NOTHING = -9000000000000000007L;

    static final int LEAST = Integer.MIN_VALUE;
    static final int GREATEST = Integer.MAX_VALUE;

    static final int MAX_CALLS = 512;

    /** Calls that bring to light what a refused call may have left behind, where no answer shows it yet. */
    private static final List<ToLongFunction<TraverseBoard>> LATER_CALLS = List.of(
        x -> x.errorPosition(), x -> x.append('7'), x -> x.addFromBuffer(), x -> x.add(31, 200), x -> x.add(0, 1),
        x -> x.setCurrent(9, 9), x -> x.setLeeway(0, 1), x -> x.setFix(1, 5, 6), x -> x.removeLast(),
        x -> x.removeLast(), x -> x.removeLast(), x -> x.lose(0), x -> x.clearBuffer(), x -> x.append('S'));

    private static Check check;

    static void begin(String test) {
        check = new Check(test);
    }

    static void end() {
        check.end();
    }

    static void description(String sentence) {
        check.about("description, \"" + sentence + "\"");
    }

    static void description(String sentence, String which) {
        check.about("description, \"" + sentence + "\" (" + which + ")");
    }

    static void promise(int number, String sentence) {
        check.about("promise " + number + ", \"" + sentence + "\"");
    }

    static void promise(int number, String sentence, String which) {
        check.about("promise " + number + ", \"" + sentence + "\" (" + which + ")");
    }

    static void due(String call, long got, long want) {
        check.due(call, got, want);
    }

    /** The two values next to a range, and the two that no range reaches. */
    static int[] outside(int least, int greatest) {
        return new int[] {least - 1, greatest + 1, LEAST, GREATEST};
    }

    /** Makes the call on one of two like boards: it answers as due, and nothing tells the boards apart afterwards. */
    static void refused(String call, Supplier<TraverseBoard> start, ToLongFunction<TraverseBoard> refusal, long due) {
        check.holds(call + " should answer an error code", due < -9000000000000000000L);
        unchanged(call, start, refusal, due);
    }

    static void unchanged(String call, Supplier<TraverseBoard> start, ToLongFunction<TraverseBoard> question, long due) {
        TraverseBoard x = start.get();
        TraverseBoard twin = start.get();
        due(call, question.applyAsLong(x), due);
        due("digest() after " + call, x.digest(), twin.digest());
        for (ToLongFunction<TraverseBoard> later : LATER_CALLS) {
            due("a later call after " + call, later.applyAsLong(x), later.applyAsLong(twin));
            due("a later digest() after " + call, x.digest(), twin.digest());
        }
    }

    static TraverseBoard fresh() {
        return new TraverseBoard();
    }

    /** Five pegs with a lost one, leeway, a current, fixes at the moments 1 and 4, and a buffer that ends in NEbN 20. */
    static TraverseBoard sailed() {
        TraverseBoard x = new TraverseBoard();
        x.setCurrent(5, 13);
        x.add(31, 120);
        x.add(7, 0);
        x.add(16, 200);
        x.add(31, 15);
        x.add(0, 60);
        x.setLeeway(0, 2);
        x.setLeeway(2, -1);
        x.setLeeway(3, -2);
        x.lose(2);
        x.setFix(1, 900000, -40000);
        x.setFix(4, -1500000, 70001);
        write(x, "NEbN 20");
        return x;
    }

    /** 48 pegs, three of them lost, fixes at the moments 12, 29, 33 and 48, and 12 characters in the buffer. */
    static TraverseBoard full() {
        TraverseBoard x = new TraverseBoard();
        x.setCurrent(27, 50);
        for (int peg = 0; peg < 48; peg++) {
            x.add(7 * peg % 32, 37 * peg % 201);
            x.setLeeway(peg, peg % 5 - 2);
        }
        x.lose(10);
        x.lose(30);
        x.lose(31);
        x.setFix(12, 1000, -2000);
        x.setFix(29, -200000000, 200000000);
        x.setFix(33, 77, 77777);
        x.setFix(48, 200000000, -199999999);
        write(x, "NbW 19999999");
        return x;
    }

    static TraverseBoard written(String text) {
        TraverseBoard x = new TraverseBoard();
        write(x, text);
        return x;
    }

    static TraverseBoard fullAndWritten(String text) {
        TraverseBoard x = full();
        x.clearBuffer();
        write(x, text);
        return x;
    }

    static void write(TraverseBoard x, String text) {
        for (int at = 0; at < text.length(); at++) {
            x.append(text.charAt(at));
        }
    }

    /** Pegs of one kind, all without leeway. */
    static TraverseBoard pegs(int count, int point, int speed) {
        TraverseBoard x = new TraverseBoard();
        for (int peg = 0; peg < count; peg++) {
            x.add(point, speed);
        }
        return x;
    }

    static void positions(TraverseBoard x, int moment, long reckonedNorth, long reckonedEast,
            long correctedNorth, long correctedEast) {
        due("reckonedNorth(" + moment + ")", x.reckonedNorth(moment), reckonedNorth);
        due("reckonedEast(" + moment + ")", x.reckonedEast(moment), reckonedEast);
        due("correctedNorth(" + moment + ")", x.correctedNorth(moment), correctedNorth);
        due("correctedEast(" + moment + ")", x.correctedEast(moment), correctedEast);
    }

    static void place(TraverseBoard x, int moment, long north, long east) {
        positions(x, moment, north, east, north, east);
    }
}
