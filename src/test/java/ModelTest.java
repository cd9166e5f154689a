import java.util.Random;

/** Runs of 512 calls, drawn from fixed seeds, on the class and on the model side by side. */
public final class ModelTest {
    private static final int RUNS = 1500;
    private static final int CALLS = 512;

    private final Random random;
    private final int seed;
    private final WrongedMeters object = new WrongedMeters();
    private final Model model = new Model();
    private final StringBuilder told = new StringBuilder();
    private String toType = "";
    private int wrong;

    private ModelTest(int seed) {
        this.seed = seed;
        random = new Random(seed);
    }

    public static void main(String[] args) {
        int failed = 0;
        for (int seed = 0; seed < RUNS && failed < 5; seed++) {
            failed += new ModelTest(seed).run();
        }
        System.out.println(failed == 0 ? "ModelTest: " + RUNS + " runs are alike" : "ModelTest: " + failed + " wrong answers");
        if (failed != 0) System.exit(1);
    }

    private int run() {
        int calls = 0;
        while (calls < CALLS && wrong == 0) {
            calls += oneCall();
            if (calls % 64 == 0) calls += compareAll();
        }
        return wrong;
    }

    private void due(String call, int got, int want) {
        told.append(call).append(" = ").append(got).append('\n');
        if (got != want && wrong == 0) {
            wrong++;
            System.out.println("ModelTest seed " + seed + ": due is " + want + " at the last of\n" + told);
        }
    }

    /** A number in a range mostly, now and then at its edges or beyond them. */
    private int near(int least, int most) {
        int draw = random.nextInt(40);
        if (draw == 0) return least - 1;
        if (draw == 1) return most + 1;
        if (draw == 2) return random.nextBoolean() ? Integer.MIN_VALUE : Integer.MAX_VALUE;
        if (draw == 3) return least;
        if (draw == 4) return most;
        return least + random.nextInt(most - least + 1);
    }

    private int house() {
        return near(0, Math.max(0, model.world.houses.size() - 1));
    }

    /** Streets are drawn unevenly in some runs, so that one fills up. */
    private int street() {
        return seed % 3 == 0 && random.nextInt(4) != 0 ? seed / 3 % 4 : near(0, 3);
    }

    private int manyDays() {
        return seed % 5 == 0 && random.nextInt(3) == 0 ? 99 : random.nextInt(3) == 0 ? near(1, 99) : 1 + random.nextInt(6);
    }

    private int oneCall() {
        if (!toType.isEmpty()) {
            int sign = toType.charAt(0);
            toType = toType.substring(1);
            due("type(" + sign + ")", object.type(sign), model.type(sign));
            return 1;
        }
        switch (random.nextInt(40)) {
            case 0: case 1: case 2: case 3: return callHouse();
            case 4: case 5: case 6: return callFlow();
            case 7: return callLock();
            case 8: case 9: return callRead();
            case 10: return callChange();
            case 11: case 12: case 13: case 14: case 15: case 16: return callDays();
            case 17: return callSet();
            case 18: case 19: case 20: return callHouseOf();
            case 21: case 22: case 23: return callOfStreet();
            case 24: case 25: return callLedger();
            case 26: case 27: return callWhatWouldBe();
            case 28: return callRefundIn();
            case 29: case 30: return callIfDays();
            case 31: case 32: return callCount();
            case 33: return callUndo();
            case 34: case 35: return drawText();
            case 36: return callClear();
            default: return callTexts();
        }
    }

    private int callHouse() {
        int street = street();
        int place = near(1, 20);
        due("house(" + street + ", " + place + ")", object.house(street, place), model.order('h', street, place));
        return 1;
    }

    private int callFlow() {
        int house = house();
        int flow = random.nextInt(3) == 0 ? 25 * random.nextInt(9) : near(0, 999);
        due("flow(" + house + ", " + flow + ")", object.flow(house, flow),
            flow < 0 || flow > 999 ? Model.INVALID : model.order('f', house, flow));
        return 1;
    }

    private int callLock() {
        int house = house();
        boolean locked = random.nextBoolean();
        due("lock(" + house + ", " + locked + ")", object.lock(house, locked), model.lock(house, locked));
        return 1;
    }

    private int callRead() {
        int house = house();
        due("read(" + house + ")", object.read(house), model.order('r', house, 0));
        return 1;
    }

    private int callChange() {
        int house = house();
        due("change(" + house + ")", object.change(house), model.order('c', house, 0));
        return 1;
    }

    private int callDays() {
        int many = manyDays();
        due("days(" + many + ")", object.days(many), model.order('d', many, 0));
        return 1;
    }

    private int callSet() {
        int what = near(0, 3);
        int[][] ranges = {{0, 12}, {1, 50}, {1, 99}, {5, 400}};
        int[] range = ranges[Math.max(0, Math.min(3, what))];
        int value = what == 3 && random.nextBoolean() ? 5 + random.nextInt(20) : near(range[0], range[1]);
        due("set(" + what + ", " + value + ")", object.set(what, value), model.set(what, value));
        return 1;
    }

    private int callHouseOf() {
        int house = house();
        int what = near(0, 13);
        due("houseOf(" + house + ", " + what + ")", object.houseOf(house, what), model.houseOf(house, what));
        return 1;
    }

    private int callOfStreet() {
        int street = street();
        int place = near(1, 20);
        int rank = near(0, 8);
        due("at(" + street + ", " + place + ")", object.at(street, place), model.at(street, place));
        due("next(" + street + ", " + rank + ")", object.next(street, rank), model.next(street, rank));
        return 2;
    }

    private int callLedger() {
        int ago = near(0, 10);
        int what = near(0, 5);
        due("ledger(" + ago + ", " + what + ")", object.ledger(ago, what), model.ledger(ago, what));
        return 1;
    }

    private int callWhatWouldBe() {
        int house = house();
        int what = near(0, 3);
        int rank = near(0, 24);
        due("why(" + house + ")", object.why(house), model.why(house));
        due("ifRead(" + house + ", " + what + ")", object.ifRead(house, what), model.ifRead(house, what));
        due("wronged(" + rank + ")", object.wronged(rank), model.wronged(rank));
        due("mean()", object.mean(), model.mean());
        return 4;
    }

    private int callRefundIn() {
        int house = house();
        due("refundIn(" + house + ")", object.refundIn(house), model.refundIn(house));
        return 1;
    }

    private int callIfDays() {
        int many = manyDays();
        int what = near(0, 2);
        due("ifDays(" + many + ", " + what + ")", object.ifDays(many, what), model.ifDays(many, what));
        return 1;
    }

    private int callCount() {
        int what = random.nextInt(5) == 0 ? near(20, 23) : near(0, 16);
        due("count(" + what + ")", object.count(what), model.count(what));
        return 1;
    }

    private int callUndo() {
        due("undo()", object.undo(), model.undo());
        return 1;
    }

    private int callClear() {
        due("clearText()", object.clearText(), model.clearText());
        return 1;
    }

    private int callTexts() {
        int what = near(0, 2);
        due("fault(" + what + ")", object.fault(what), model.fault(what));
        if (random.nextBoolean()) return 1;
        due("play()", object.play(), model.play());
        return 2;
    }

    private int drawText() {
        StringBuilder text = new StringBuilder();
        int orders = 1 + random.nextInt(5);
        for (int i = 0; i < orders; i++) drawOrder(text);
        if (random.nextInt(3) == 0) text.setCharAt(random.nextInt(text.length()), (char) (32 + random.nextInt(95)));
        if (random.nextInt(6) == 0) text.setLength(random.nextInt(text.length()) + 1);
        if (random.nextInt(40) == 0) text.setCharAt(0, (char) (random.nextBoolean() ? 31 : 127));
        toType = text.toString();
        return callClear();
    }

    private void drawOrder(StringBuilder text) {
        switch ("hflrcdd".charAt(random.nextInt(7))) {
            case 'h': text.append('h').append(random.nextInt(4)).append(',').append(1 + random.nextInt(20)); break;
            case 'f': text.append('f').append(digits(model.world.houses.size())).append(',').append(random.nextInt(1100)); break;
            case 'l': text.append('l').append(digits(model.world.houses.size())); break;
            case 'r': text.append('r').append(digits(model.world.houses.size())); break;
            case 'c': text.append('c').append(digits(model.world.houses.size())); break;
            default: text.append('d').append(digits(random.nextInt(20) == 0 ? 105 : 12)); break;
        }
        text.append(';');
    }

    private String digits(int below) {
        int number = random.nextInt(Math.max(1, below));
        return random.nextInt(4) == 0 ? "0" + number : "" + number;
    }

    /** Every count, and every fact of one house and of one entry. */
    private int compareAll() {
        for (int what = 0; what <= 23; what++) due("count(" + what + ")", object.count(what), model.count(what));
        int house = house();
        for (int what = 0; what <= 13; what++) {
            due("houseOf(" + house + ", " + what + ")", object.houseOf(house, what), model.houseOf(house, what));
        }
        int ago = near(0, 10);
        for (int what = 0; what <= 5; what++) {
            due("ledger(" + ago + ", " + what + ")", object.ledger(ago, what), model.ledger(ago, what));
        }
        return 44;
    }
}
