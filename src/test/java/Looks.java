import java.util.Arrays;

/** All that an object can be asked, in parts that 512 calls suffice for, so that an object is built for each. */
final class Looks {
    /** The parts that undo() brings back. */
    static final int OF_TOWN = 6;
    /** These, and behind them the parts with the text and the history. */
    static final int ALL = 8;

    private final Counted x;
    private final int[] seen = new int[Counted.MOST_CALLS];
    private int many;

    private Looks(Counted x) {
        this.x = x;
    }

    static int[] part(Counted x, int part) {
        Looks looks = new Looks(x);
        looks.look(part);
        return Arrays.copyOf(looks.seen, looks.many);
    }

    private void look(int part) {
        switch (part) {
            case 0: counts(); break;
            case 1: houses(0, 12); break;
            case 2: houses(12, 24); break;
            case 3: streets(); break;
            case 4: ledger(); break;
            case 5: whatWouldBe(); break;
            case 6: text(); break;
            default: history(); break;
        }
    }

    private void see(int answer) {
        seen[many++] = answer;
    }

    private void counts() {
        for (int what = 0; what <= 23; what++) if (what != 15 && what != 16) see(x.count(what));
    }

    private void houses(int from, int end) {
        for (int house = from; house < end; house++) {
            for (int what = 0; what <= 13; what++) see(x.houseOf(house, what));
            see(x.why(house));
        }
    }

    private void streets() {
        for (int street = 0; street <= 3; street++) {
            for (int place = 1; place <= 20; place++) see(x.at(street, place));
            for (int rank = 0; rank <= 8; rank++) see(x.next(street, rank));
        }
    }

    private void ledger() {
        for (int ago = 0; ago <= 10; ago++) {
            for (int what = 0; what <= 5; what++) see(x.ledger(ago, what));
        }
    }

    private void whatWouldBe() {
        for (int rank = 0; rank <= 24; rank++) see(x.wronged(rank));
        for (int house = 0; house < 24; house++) {
            for (int what = 0; what <= 3; what++) see(x.ifRead(house, what));
            see(x.refundIn(house));
        }
        for (int what = 0; what <= 2; what++) see(x.ifDays(99, what));
        see(x.mean());
    }

    private void text() {
        see(x.count(16));
        for (int what = 0; what <= 2; what++) see(x.fault(what));
        see(x.type('d'));
        see(x.fault(2));
        see(x.clearText());
    }

    private void history() {
        for (int undone = 0; undone <= 4; undone++) {
            see(x.count(15));
            see(x.undo());
            counts();
            for (int house = 0; house < 24; house++) see(x.houseOf(house, 2));
        }
    }
}
