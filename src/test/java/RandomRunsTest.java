import java.util.Random;

/** Random calls, put to the class and to the model alike; the digest after each call shows the whole state. */
final class RandomRunsTest {
    private static final int RUNS = 1200;

    /** The document promises nothing of an object behind these. */
    private static final int MAX_CALLS = 512;

    /** A text of the longest name and speed to an emptied buffer, its peg, and the digest. */
    private static final int MAX_CALLS_OF_STEP = 12;

    private static final int[] ODD_NUMBERS = {Integer.MIN_VALUE, -200000001, -3, -2, -1, 0, 1, 2, 3, 31, 32, 47, 48, 49,
        50, 51, 127, 200, 201, 200000001, Integer.MAX_VALUE};

    private final Check check;
    private final Random random;
    private final TraverseBoard board = new TraverseBoard();
    private final Model model = new Model();
    private final boolean growing;
    private int calls;

    private RandomRunsTest(Check check, int seed) {
        this.check = check;
        random = new Random(seed);
        growing = seed % 3 == 0;
    }

    public static void main(String[] args) {
        Check check = new Check("RandomRunsTest");
        for (int seed = 0; seed < RUNS && !check.anyWrong(); seed++) {
            check.about("random run " + seed);
            new RandomRunsTest(check, seed).run();
        }
        check.end();
    }

    private void run() {
        for (int pegs = growing ? random.nextInt(50) : 0; pegs > 0; pegs--) {
            add();
        }
        while (calls + MAX_CALLS_OF_STEP <= MAX_CALLS) {
            step();
            due("digest()", board.digest(), model.digest());
        }
    }

    private void step() {
        int kind = random.nextInt(100);
        if (kind < 25) {
            text();
        } else if (kind < (growing ? 60 : 40)) {
            add();
        } else if (kind < 75) {
            change();
        } else {
            ask();
        }
    }

    private void text() {
        int kind = random.nextInt(12);
        if (kind == 0) {
            due("clearBuffer", board.clearBuffer(), model.clearBuffer());
        } else if (kind == 1) {
            due("addFromBuffer", board.addFromBuffer(), model.addFromBuffer());
        } else if (kind == 2) {
            due("errorPosition", board.errorPosition(), model.errorPosition());
        } else if (kind == 3) {
            write(text(random.nextInt(230)));
        } else if (kind < 8) {
            append(number(33, 126));
        } else {
            due("clearBuffer", board.clearBuffer(), model.clearBuffer());
            write(text(random.nextInt(201)));
            due("errorPosition", board.errorPosition(), model.errorPosition());
            due("addFromBuffer", board.addFromBuffer(), model.addFromBuffer());
        }
    }

    private String text(int speed) {
        String name = Model.NAMES.get(random.nextInt(32));
        return name + " " + speed;
    }

    private void write(String text) {
        int damaged = random.nextInt(4 * text.length());
        for (int at = 0; at < text.length(); at++) {
            append(at == damaged ? "NESWb 0123456789n".charAt(random.nextInt(17)) : text.charAt(at));
        }
    }

    private void append(int ch) {
        due("append " + ch, board.append(ch), model.append(ch));
    }

    private void add() {
        int point = number(0, 31);
        int speed = number(0, 200);
        due("add " + point + " " + speed, board.add(point, speed), model.add(point, speed));
    }

    private void change() {
        int peg = number(0, 47);
        int moment = number(0, 48);
        int point = number(0, 31);
        switch (random.nextInt(growing ? 9 : 7)) {
            case 0 -> {
                int speed = number(0, 200);
                due("replace " + peg + " " + point + " " + speed, board.replace(peg, point, speed), model.replace(peg, point, speed));
            }
            case 1 -> due("removeLast", board.removeLast(), model.removeLast());
            case 2 -> due("lose " + peg, board.lose(peg), model.lose(peg));
            case 3 -> {
                int leeway = number(-2, 2);
                due("setLeeway " + peg + " " + leeway, board.setLeeway(peg, leeway), model.setLeeway(peg, leeway));
            }
            case 4 -> {
                int drift = number(0, 50);
                due("setCurrent " + point + " " + drift, board.setCurrent(point, drift), model.setCurrent(point, drift));
            }
            case 5 -> due("removeFix " + moment, board.removeFix(moment), model.removeFix(moment));
            default -> setFix(moment);
        }
    }

    private void setFix(int moment) {
        int reach = new int[] {10, 100000, 3000000, 20000000, 200000000}[random.nextInt(5)];
        int north = number(-reach, reach);
        int east = number(-reach, reach);
        due("setFix " + moment + " " + north + " " + east, board.setFix(moment, north, east), model.setFix(moment, north, east));
    }

    private void ask() {
        int peg = number(0, 47);
        int moment = number(0, 48);
        int other = number(0, 48);
        int point = number(0, 31);
        due("pegCount", board.pegCount(), model.pegCount());
        due("pointOf " + peg, board.pointOf(peg), model.pointOf(peg));
        due("speedOf " + peg, board.speedOf(peg), model.speedOf(peg));
        due("speedTowards " + point, board.speedTowards(point), model.speedTowards(point));
        due("reckonedNorth " + moment, board.reckonedNorth(moment), model.reckonedNorth(moment));
        due("reckonedEast " + moment, board.reckonedEast(moment), model.reckonedEast(moment));
        due("correctedNorth " + moment, board.correctedNorth(moment), model.correctedNorth(moment));
        due("correctedEast " + moment, board.correctedEast(moment), model.correctedEast(moment));
        due("distance " + moment + " " + other, board.distance(moment, other), model.distance(moment, other));
        due("bearing " + moment + " " + other, board.bearing(moment, other), model.bearing(moment, other));
        due("findLost " + peg, board.findLost(peg), model.findLost(peg));
    }

    /** Mostly a number in range that the board knows, now and then an odd one. */
    private int number(int least, int greatest) {
        if (random.nextInt(25) == 0) {
            return ODD_NUMBERS[random.nextInt(ODD_NUMBERS.length)];
        }
        int known = greatest == 47 || greatest == 48 ? Math.min(greatest, (int) model.pegCount() + 1) : greatest;
        return least + random.nextInt(known - least + 1);
    }

    private void due(String call, long got, long want) {
        calls++;
        check.due(call, got, want);
    }
}
