/** An object under test that refuses a 513th call: what that answers is free, so no test may ask for it. */
final class Counted {
    static final int MOST_CALLS = 512;

    private final WrongedMeters meters = new WrongedMeters();
    private int calls;

    int calls() { return calls; }

    private WrongedMeters called() {
        if (calls == MOST_CALLS) throw new IllegalStateException("a test makes more than " + MOST_CALLS + " calls of one object");
        calls++;
        return meters;
    }

    int house(int street, int place) { return called().house(street, place); }
    int flow(int house, int flow) { return called().flow(house, flow); }
    int lock(int house, boolean isLocked) { return called().lock(house, isLocked); }
    int read(int house) { return called().read(house); }
    int change(int house) { return called().change(house); }
    int days(int many) { return called().days(many); }
    int set(int what, int value) { return called().set(what, value); }
    int houseOf(int house, int what) { return called().houseOf(house, what); }
    int at(int street, int place) { return called().at(street, place); }
    int next(int street, int rank) { return called().next(street, rank); }
    int ledger(int ago, int what) { return called().ledger(ago, what); }
    int why(int house) { return called().why(house); }
    int ifRead(int house, int what) { return called().ifRead(house, what); }
    int wronged(int rank) { return called().wronged(rank); }
    int refundIn(int house) { return called().refundIn(house); }
    int ifDays(int many, int what) { return called().ifDays(many, what); }
    int mean() { return called().mean(); }
    int count(int what) { return called().count(what); }
    int undo() { return called().undo(); }
    int type(int character) { return called().type(character); }
    int clearText() { return called().clearText(); }
    int fault(int what) { return called().fault(what); }
    int play() { return called().play(); }
}
