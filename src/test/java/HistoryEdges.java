/** Boundary cases of changes and of the history, and which of several errors a call returns. */
final class HistoryEdges extends Edges {
    @Override
    void run() {
        changes();
        history();
        undo();
        whichError();
    }

    private static final String[] CHANGES = {"house()", "flow()", "lock()", "read()", "change()", "days()", "set()", "play()"};

    private int change(int kind) {
        switch (kind) {
            case 0: return x.house(2, 20);
            case 1: return x.flow(0, 998);
            case 2: return x.lock(0, true);
            case 3: return x.read(0);
            case 4: return x.change(1);
            case 5: return x.days(99);
            case 6: return x.set(3, 6);
            default: return x.play();
        }
    }

    private void changes() {
        under("Terms");
        edge("The changes are the calls of house, flow, lock, read, change, days, set and play that return no error.", () -> {
            for (int kind = 0; kind < CHANGES.length; kind++) {
                for (int states = 0; states <= 4; states++) {
                    begin();
                    RefusalEdges.lively(x);
                    while (x.count(15) > states) x.undo();
                    due(CHANGES[kind] + " returns an error", change(kind) < 0 ? 1 : 0, 0);
                    due("states behind " + CHANGES[kind], x.count(15), Math.min(states + 1, 4));
                }
            }
        });
        edge("that return no error", () -> {
            x.house(0, 1);
            x.set(0, 5);
            due("the same setting", x.set(0, 5), 5);
            due("states", x.count(15), 3);
            x.undo();
            due("the same flow", x.flow(0, 0), 0);
            due("states", x.count(15), 3);
            x.undo();
            due("the same lock", x.lock(0, false), 0);
            due("states", x.count(15), 3);
            x.undo();
            due("play() of no orders", x.play(), 0);
            due("states", x.count(15), 3);
            x.undo();
            due("house() of no street", x.house(4, 1), INVALID);
            due("flow() of no house", x.flow(1, 0), INVALID);
            due("lock() of no house", x.lock(1, true), INVALID);
            due("read() of no house", x.read(1), INVALID);
            due("change() of no house", x.change(1), INVALID);
            due("no days()", x.days(0), INVALID);
            due("set() of no setting", x.set(4, 5), INVALID);
            text("x");
            due("play() of no order", x.play(), NOT_POSSIBLE);
            due("states behind errors", x.count(15), 2);
        });
    }

    private void history() {
        edge("A history of at most 4 states is kept", () -> {
            due("at first", x.count(15), 0);
            for (int call = 1; call <= 9; call++) {
                x.set(0, call);
                due("behind change " + call, x.count(15), Math.min(call, 4));
            }
            for (int left = 3; left >= 0; left--) due("left", x.undo(), left);
            due("no more", x.undo(), NOT_POSSIBLE);
            due("setting 0", x.count(20), 5);
        });
        edge("if there are 5 states then, the oldest one is dropped", () -> {
            for (int changes = 1; changes <= 12; changes++) {
                begin();
                for (int change = 1; change <= changes; change++) x.set(0, change);
                int states = Math.min(changes, 4);
                for (int undone = 1; undone <= states; undone++) {
                    due("undo()", x.undo(), states - undone);
                    due("setting 0, undone " + undone + " of " + changes, x.count(20), undone == changes ? 3 : changes - undone);
                }
                due("no more", x.undo(), NOT_POSSIBLE);
            }
        });
        edge("if there are 5 states then, the oldest one is dropped", () -> {
            for (int change = 1; change <= 5; change++) x.set(0, change);
            x.undo();
            x.undo();
            for (int change = 6; change <= 8; change++) x.set(0, change);
            int[] wanted = {7, 6, 3, 2};
            for (int undone = 0; undone < 4; undone++) {
                due("undo()", x.undo(), 3 - undone);
                due("setting 0", x.count(20), wanted[undone]);
            }
            due("no more", x.undo(), NOT_POSSIBLE);
        });
        edge("each change records everything before it but the text", () -> {
            x.type('a');
            x.set(0, 1);
            x.type('b');
            due("undo()", x.undo(), 0);
            due("the text stays", x.count(16), 2);
            x.set(0, 1);
            x.clearText();
            due("undo()", x.undo(), 0);
            due("it stays empty", x.count(16), 0);
            text("d1;");
            due("play()", x.play(), 1);
            due("undo()", x.undo(), 0);
            due("now", x.count(0), 0);
            due("the text stays", x.count(16), 3);
            due("play() again", x.play(), 1);
            due("now", x.count(0), 1);
        });
    }

    private void undo() {
        under("Promise 20: undo");
        edge("Restores the latest state of the history, which is removed from it.", () -> {
            x.house(0, 1);
            x.flow(0, 9);
            due("undo of flow()", x.undo(), 1);
            due("flow", x.houseOf(0, 5), 0);
            x.flow(0, 8);
            x.days(9);
            due("undo of days()", x.undo(), 2);
            due("flow", x.houseOf(0, 5), 8);
            due("now", x.count(0), 0);
            due("undo of flow()", x.undo(), 1);
            due("flow", x.houseOf(0, 5), 0);
            due("undo of house()", x.undo(), 0);
            due("houses", x.count(1), 0);
        });
        edge("Returns the number of states that are left in the history", () -> {
            for (int changes = 1; changes <= 6; changes++) {
                begin();
                for (int call = 0; call < changes; call++) x.days(1);
                for (int left = Math.min(changes, 4) - 1; left >= 0; left--) {
                    due("left", x.undo(), left);
                    due("states", x.count(15), left);
                }
                due("now", x.count(0), Math.max(0, changes - 4));
            }
        });
        edge("NOT_POSSIBLE if it is empty", () -> {
            due("at first", x.undo(), NOT_POSSIBLE);
            x.type('d');
            due("behind type()", x.undo(), NOT_POSSIBLE);
            x.days(1);
            due("undo()", x.undo(), 0);
            due("empty again", x.undo(), NOT_POSSIBLE);
            due("and again", x.undo(), NOT_POSSIBLE);
            x.days(1);
            due("behind a change", x.undo(), 0);
            for (int call = 0; call < 9; call++) x.days(1);
            for (int call = 0; call < 4; call++) x.undo();
            due("behind four", x.undo(), NOT_POSSIBLE);
            due("now", x.count(0), 5);
        });
    }

    private void whichError() {
        under("Terms");
        edge("If several errors apply to a call, INVALID_ARGUMENT is returned rather than NOT_POSSIBLE", () -> {
            x.house(0, 1);
            x.lock(0, true);
            due("read() of no house, house 0 being locked", x.read(1), INVALID);
            due("house() at a taken place, of no street", x.house(4, 1), INVALID);
            due("house() at no place, of a street", x.house(0, 0), INVALID);
            fill(24);
            due("house() at no place, with 24", x.house(0, 21), INVALID);
            due("house() at no place, with 24", x.house(0, 0), INVALID);
            due("house() in no street, with 24", x.house(4, 1), INVALID);
            due("house() in no street, with 24", x.house(-1, 1), INVALID);
        });
        edge("NOT_POSSIBLE rather than LIMIT_REACHED", () -> {
            fill(24);
            due("at the first place, with 24", x.house(0, 1), NOT_POSSIBLE);
            due("at the latest place, with 24", x.house(1, 4), NOT_POSSIBLE);
            due("at a free place, with 24", x.house(1, 5), LIMIT);
        });
        edge("and LIMIT_REACHED rather than NOT_FOUND", () -> {
            toTheLastDay();
            due("days()", x.days(1), LIMIT);
            due("days() out of range", x.days(100), INVALID);
            due("days() out of range", x.days(0), INVALID);
            for (int length = 0; length < 60; length++) x.type('d');
            due("type()", x.type('d'), LIMIT);
            due("type() out of range", x.type(31), INVALID);
            due("type() out of range", x.type(127), INVALID);
        });
        edge("`INVALID_ARGUMENT = -1000001`: An argument is out of its range, or there is no such house.", () -> {
            due("the constant", WrongedMeters.INVALID_ARGUMENT, INVALID);
            for (int what : new int[] {-1, 7, 14}) due("houseOf() of no house", x.houseOf(0, what), INVALID);
            x.house(0, 1);
            for (int what : new int[] {-1, 14}) due("houseOf() of a house that was never read", x.houseOf(0, what), INVALID);
            for (int ago : new int[] {-1, 0, 10}) due("ledger(), empty", x.ledger(ago, 6), INVALID);
            due("ledger(), empty", x.ledger(-1, 0), INVALID);
            due("at() of no street", x.at(4, 2), INVALID);
            due("at() of no place", x.at(0, 21), INVALID);
            due("next() of no street", x.next(4, 9), INVALID);
            due("next() below rank 0, in an empty street", x.next(1, -1), INVALID);
            due("wronged() below rank 0", x.wronged(-1), INVALID);
            due("refundIn() of no house", x.refundIn(1), INVALID);
            due("fault() of no text", x.fault(-1), INVALID);
            due("fault() of no text", x.fault(3), INVALID);
        });
        edge("`NOT_POSSIBLE = -1000002`: The call is not possible in the present state.", () -> {
            due("the constant", WrongedMeters.NOT_POSSIBLE, NOT_POSSIBLE);
            due("undo()", x.undo(), NOT_POSSIBLE);
            x.house(0, 1);
            due("house()", x.house(0, 1), NOT_POSSIBLE);
            x.read(0);
            due("read()", x.read(0), NOT_POSSIBLE);
            x.type('x');
            due("play()", x.play(), NOT_POSSIBLE);
        });
        edge("`LIMIT_REACHED = -1000003`: A fixed limit has been reached.", () -> {
            due("the constant", WrongedMeters.LIMIT_REACHED, LIMIT);
            fill(24);
            due("house()", x.house(3, 1), LIMIT);
            toTheLastDay();
            due("days()", x.days(1), LIMIT);
            for (int length = 0; length < 60; length++) x.type('d');
            due("type()", x.type('d'), LIMIT);
        });
        edge("`NOT_FOUND = -1000004`: There is no such value.", () -> {
            due("the constant", WrongedMeters.NOT_FOUND, NOT_FOUND);
            due("at()", x.at(0, 1), NOT_FOUND);
            due("next()", x.next(0, 0), NOT_FOUND);
            due("ledger()", x.ledger(0, 0), NOT_FOUND);
            due("wronged()", x.wronged(0), NOT_FOUND);
            due("mean()", x.mean(), NOT_FOUND);
            due("fault()", x.fault(0), NOT_FOUND);
            x.house(0, 1);
            due("houseOf()", x.houseOf(0, 7), NOT_FOUND);
            due("refundIn()", x.refundIn(0), NOT_FOUND);
        });
        edge("If there is no house with a certain number, this is INVALID_ARGUMENT.", () -> {
            for (int houses : new int[] {0, 1, 23, 24}) {
                begin();
                fill(houses);
                for (int house : new int[] {houses, houses + 1, 24, 255, -1, LEAST, MOST}) {
                    int[] answers = {x.flow(house, 1), x.lock(house, true), x.read(house), x.change(house), x.houseOf(house, 0),
                        x.why(house), x.ifRead(house, 0), x.refundIn(house)};
                    for (int answer : answers) due("of house " + house, answer, INVALID);
                }
                due("houses", x.count(1), houses);
            }
        });
    }
}
