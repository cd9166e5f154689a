import java.util.Random;

/** Runs of up to 512 calls, drawn from fixed seeds, on the class and on the model side by side. */
public final class ModelTest {
    private static final int RUNS = 1500;
    /** The calls that one draw makes at most, and those that compareAll() makes. */
    private static final int DRAW = 4;
    private static final int LOOK = 44;
    private static final int CALLS_BETWEEN_LOOKS = 108;

    private final Random random;
    private final int seed;
    private final Counted object = new Counted();
    private final Model model = new Model();
    private final StringBuilder told = new StringBuilder();
    private String toType = "";
    private int wrong;

    private ModelTest(int seed) {
        this.seed = seed;
        random = new Random(seed);
    }

    public static void main(String[] args) {
        int failed = 0;
        for (int seed = 0; seed < RUNS && failed < 5; seed++) {
            failed += new ModelTest(seed).run();
        }
        System.out.println(failed == 0 ? "ModelTest: " + RUNS + " runs are alike" : "ModelTest: " + failed + " wrong answers");
        if (failed != 0) System.exit(1);
    }

    /** Some runs begin near the last day. */
    private void goAhead() {
        for (int i = 0; i < 100; i++) due("days(99)", object.days(99), model.order('d', 99, 0));
    }

    private int run() {
        if (seed % 8 == 7) goAhead();
        int nextLook = CALLS_BETWEEN_LOOKS;
        while (object.calls() + DRAW + LOOK <= Counted.MOST_CALLS && wrong == 0) {
            draw();
            if (object.calls() >= nextLook) {
                compareAll();
                nextLook += CALLS_BETWEEN_LOOKS;
            }
        }
        if (object.calls() + LOOK <= Counted.MOST_CALLS) compareAll();
        return wrong;
    }

    private void due(String call, int got, int want) {
        told.append(call).append(" = ").append(got).append('\n');
        if (got != want && wrong == 0) {
            wrong++;
            System.out.println("ModelTest seed " + seed + ": due is " + want + " at the last of\n" + told);
        }
    }

    /** A number in a range mostly, now and then at its edges or beyond them. */
    private int near(int least, int most) {
        int draw = random.nextInt(40);
        if (draw == 0) return least - 1;
        if (draw == 1) return most + 1;
        if (draw == 2) return random.nextBoolean() ? Integer.MIN_VALUE : Integer.MAX_VALUE;
        if (draw == 3) return least;
        if (draw == 4) return most;
        return least + random.nextInt(most - least + 1);
    }

    private int house() {
        return near(0, Math.max(0, model.world.houses.size() - 1));
    }

    /** Streets are drawn unevenly in some runs, so that one fills up. */
    private int street() {
        return seed % 3 == 0 && random.nextInt(4) != 0 ? seed / 3 % 4 : near(0, 3);
    }

    private int manyDays() {
        return seed % 5 == 0 && random.nextInt(3) == 0 ? 99 : random.nextInt(3) == 0 ? near(1, 99) : 1 + random.nextInt(6);
    }

    private void draw() {
        if (!toType.isEmpty()) {
            int sign = toType.charAt(0);
            toType = toType.substring(1);
            due("type(" + sign + ")", object.type(sign), model.type(sign));
            return;
        }
        switch (random.nextInt(40)) {
            case 0: case 1: case 2: case 3: callHouse(); break;
            case 4: case 5: case 6: callFlow(); break;
            case 7: callLock(); break;
            case 8: case 9: callRead(); break;
            case 10: callChange(); break;
            case 11: case 12: case 13: case 14: case 15: case 16: callDays(); break;
            case 17: callSet(); break;
            case 18: case 19: case 20: callHouseOf(); break;
            case 21: case 22: case 23: callOfStreet(); break;
            case 24: case 25: callLedger(); break;
            case 26: case 27: callWhatWouldBe(); break;
            case 28: callRefundIn(); break;
            case 29: case 30: callIfDays(); break;
            case 31: case 32: callCount(); break;
            case 33: callUndo(); break;
            case 34: case 35: drawText(); break;
            case 36: callClear(); break;
            default: callTexts(); break;
        }
    }

    private void callHouse() {
        int street = street();
        int place = near(1, 20);
        due("house(" + street + ", " + place + ")", object.house(street, place), model.order('h', street, place));
    }

    private void callFlow() {
        int house = house();
        int flow = random.nextInt(3) == 0 ? 25 * random.nextInt(9) : near(0, 999);
        due("flow(" + house + ", " + flow + ")", object.flow(house, flow),
            flow < 0 || flow > 999 ? Model.INVALID : model.order('f', house, flow));
    }

    private void callLock() {
        int house = house();
        boolean locked = random.nextBoolean();
        due("lock(" + house + ", " + locked + ")", object.lock(house, locked), model.lock(house, locked));
    }

    private void callRead() {
        int house = house();
        due("read(" + house + ")", object.read(house), model.order('r', house, 0));
    }

    private void callChange() {
        int house = house();
        due("change(" + house + ")", object.change(house), model.order('c', house, 0));
    }

    private void callDays() {
        int many = manyDays();
        due("days(" + many + ")", object.days(many), model.order('d', many, 0));
    }

    private void callSet() {
        int what = near(0, 3);
        int[][] ranges = {{0, 12}, {1, 50}, {1, 99}, {5, 400}};
        int[] range = ranges[Math.max(0, Math.min(3, what))];
        int value = what == 3 && random.nextBoolean() ? 5 + random.nextInt(20) : near(range[0], range[1]);
        due("set(" + what + ", " + value + ")", object.set(what, value), model.set(what, value));
    }

    private void callHouseOf() {
        int house = house();
        int what = near(0, 13);
        due("houseOf(" + house + ", " + what + ")", object.houseOf(house, what), model.houseOf(house, what));
    }

    private void callOfStreet() {
        int street = street();
        int place = near(1, 20);
        int rank = near(0, 8);
        due("at(" + street + ", " + place + ")", object.at(street, place), model.at(street, place));
        due("next(" + street + ", " + rank + ")", object.next(street, rank), model.next(street, rank));
    }

    private void callLedger() {
        int ago = near(0, 10);
        int what = near(0, 5);
        due("ledger(" + ago + ", " + what + ")", object.ledger(ago, what), model.ledger(ago, what));
    }

    private void callWhatWouldBe() {
        int house = house();
        int what = near(0, 3);
        int rank = near(0, 24);
        due("why(" + house + ")", object.why(house), model.why(house));
        due("ifRead(" + house + ", " + what + ")", object.ifRead(house, what), model.ifRead(house, what));
        due("wronged(" + rank + ")", object.wronged(rank), model.wronged(rank));
        due("mean()", object.mean(), model.mean());
    }

    private void callRefundIn() {
        int house = house();
        due("refundIn(" + house + ")", object.refundIn(house), model.refundIn(house));
    }

    private void callIfDays() {
        int many = manyDays();
        int what = near(0, 2);
        due("ifDays(" + many + ", " + what + ")", object.ifDays(many, what), model.ifDays(many, what));
    }

    private void callCount() {
        int what = random.nextInt(5) == 0 ? near(20, 23) : near(0, 16);
        due("count(" + what + ")", object.count(what), model.count(what));
    }

    private void callUndo() {
        due("undo()", object.undo(), model.undo());
    }

    private void callClear() {
        due("clearText()", object.clearText(), model.clearText());
    }

    private void callTexts() {
        int what = near(0, 2);
        due("fault(" + what + ")", object.fault(what), model.fault(what));
        if (random.nextBoolean()) return;
        due("play()", object.play(), model.play());
    }

    private void drawText() {
        StringBuilder text = new StringBuilder();
        int orders = 1 + random.nextInt(5);
        for (int i = 0; i < orders; i++) drawOrder(text);
        if (random.nextInt(3) == 0) text.setCharAt(random.nextInt(text.length()), (char) (32 + random.nextInt(95)));
        if (random.nextInt(6) == 0) text.setLength(random.nextInt(text.length()) + 1);
        if (random.nextInt(40) == 0) text.setCharAt(0, (char) (random.nextBoolean() ? 31 : 127));
        toType = text.toString();
        callClear();
    }

    private void drawOrder(StringBuilder text) {
        switch ("hflrcdd".charAt(random.nextInt(7))) {
            case 'h': text.append('h').append(random.nextInt(4)).append(',').append(1 + random.nextInt(20)); break;
            case 'f': text.append('f').append(digits(model.world.houses.size())).append(',').append(random.nextInt(1100)); break;
            case 'l': text.append('l').append(digits(model.world.houses.size())); break;
            case 'r': text.append('r').append(digits(model.world.houses.size())); break;
            case 'c': text.append('c').append(digits(model.world.houses.size())); break;
            default: text.append('d').append(digits(random.nextInt(20) == 0 ? 105 : 12)); break;
        }
        text.append(';');
    }

    private String digits(int below) {
        int number = random.nextInt(Math.max(1, below));
        return random.nextInt(4) == 0 ? "0" + number : "" + number;
    }

    /** Every count, and every fact of one house and of one entry. */
    private void compareAll() {
        for (int what = 0; what <= 23; what++) due("count(" + what + ")", object.count(what), model.count(what));
        int house = house();
        for (int what = 0; what <= 13; what++) {
            due("houseOf(" + house + ", " + what + ")", object.houseOf(house, what), model.houseOf(house, what));
        }
        int ago = near(0, 10);
        for (int what = 0; what <= 5; what++) {
            due("ledger(" + ago + ", " + what + ")", object.ledger(ago, what), model.ledger(ago, what));
        }
    }
}
