/** Boundary cases of new objects, houses, meters and places. */
final class HouseEdges extends Edges {
    @Override
    void run() {
        theObject();
        streetsAndPlaces();
        dials();
        used();
        newObject();
        house();
        flow();
        lock();
        houseOf();
        houseOfCounts();
        at();
    }

    private void theObject() {
        under("What it is");
        edge("An object is used for at most 512 calls after it has been made", () -> {
            due("the first call", x.house(0, 1), 0);
            for (int call = 1; call < 510; call++) due("call " + call, x.flow(0, call), call - 1);
            due("the last call but one", x.days(99), 24);
            due("calls", x.calls(), 511);
            due("the last call", x.count(0), 99);
        });
        edge("An object is used for at most 512 calls after it has been made", () -> {
            fill(24);
            while (x.calls() < 512) due("a dear call", x.refundIn(23), NOT_FOUND);
        });
        edge("An object is used for at most 512 calls after it has been made", () -> {
            x.type('d');
            x.type('9');
            x.type(';');
            for (int i = 0; i < 254; i++) {
                due("play()", x.play(), 1);
                due("undo()", x.undo(), 0);
            }
            due("the last call", x.count(0), 0);
        });
    }

    private void streetsAndPlaces() {
        under("Terms");
        edge("Days are counted from 0; there is a day of now, 0 at first.", () -> {
            due("now", x.count(0), 0);
            x.house(0, 1);
            x.read(0);
            due("day of a reading", x.houseOf(0, 7), 0);
            due("day of an entry", x.ledger(0, 0), 0);
        });
        edge("All divisions are rounded down, of numbers of at least 0.", () -> {
            withBalance(-98);
            goOn(0, 0);
            due("0 up", x.read(0), 0);
            goOn(0, 99);
            due("99 up", x.read(0), 1);
            withBalance(98);
            goOn(0, 99);
            due("99 down", x.read(0), 0);
            withBalance(-98);
            x.house(3, 2);
            x.house(3, 3);
            due("98 by 3", x.mean(), Float.floatToIntBits(98f / 3f));
        });
        edge("A unit is 100 hundredths.", () -> {
            withBalance(-1);
            goOn(0, 100);
            due("units", x.read(0), 1);
            due("balance", balance(0), -1);
            withBalance(1);
            goOn(0, 100);
            due("units", x.read(0), 1);
            due("balance", balance(0), 1);
        });
        edge("There are 4 streets, 0 to 3, with places 1 to 20.", () -> {
            for (int street = 0; street <= 3; street++) {
                begin();
                for (int place = 1; place <= 20; place++) due("house(" + street + ", " + place + ")", x.house(street, place), place - 1);
                for (int place = 1; place <= 20; place++) {
                    due("at(" + street + ", " + place + ")", x.at(street, place), place - 1);
                    due("at of another street", x.at((street + 1) % 4, place), NOT_FOUND);
                }
            }
        });
        edge("There are at most 24 houses", () -> {
            fill(23);
            due("house 24", x.house(3, 20), 23);
            due("houses", x.count(1), 24);
            due("house 25", x.house(3, 19), LIMIT);
            due("houses", x.count(1), 24);
            due("its place", x.at(3, 19), NOT_FOUND);
        });
        edge("numbered from 0 in the order in which they came", () -> {
            int[][] places = {{3, 20}, {0, 1}, {2, 7}, {0, 20}, {3, 1}};
            for (int house = 0; house < places.length; house++) due("number", x.house(places[house][0], places[house][1]), house);
            for (int house = 0; house < places.length; house++) {
                facts(house, places[house][0], places[house][1]);
                due("at", x.at(places[house][0], places[house][1]), house);
            }
            x.undo();
            due("number behind undo()", x.house(1, 1), 4);
        });
        edge("each at a place of a street at which there is no other one", () -> {
            due("house(2, 9)", x.house(2, 9), 0);
            due("another place", x.house(2, 8), 1);
            due("another street", x.house(1, 9), 2);
            due("the same", x.house(2, 9), NOT_POSSIBLE);
            x.undo();
            due("at a place that undo() made free", x.house(1, 9), 2);
        });
        edge("is locked or not (at first)", () -> {
            x.house(0, 1);
            due("is locked", x.houseOf(0, 6), 0);
            due("houses that are locked", x.count(2), 0);
            due("read", x.read(0), 0);
        });
        edge("a flow, in hundredths a day, 0 at first", () -> {
            x.house(0, 1);
            due("flow", x.houseOf(0, 5), 0);
            x.days(99);
            due("dial", x.houseOf(0, 2), 0);
            due("flow then", x.flow(0, 1), 0);
            x.days(1);
            due("dial", x.houseOf(0, 2), 1);
        });
    }

    private void dials() {
        edge("A house has a meter with a dial, 0 to 99999 hundredths, 0 at first", () -> {
            x.house(0, 1);
            due("at first", x.houseOf(0, 2), 0);
            oneHouse();
            goOn(0, 99998);
            due("99998", x.houseOf(0, 2), 99998);
            goOn(0, 1);
            due("99999", x.houseOf(0, 2), 99999);
        });
        edge("When a day passes, the dial goes on by the flow, and from 99999 to 0.", () -> {
            int[][] rows = {{0, 0, 0}, {0, 1, 1}, {0, 999, 999}, {99000, 999, 99999}, {99001, 999, 0}, {99002, 999, 1}, {99998, 1, 99999},
                {99998, 2, 0}, {99998, 3, 1}, {99999, 0, 99999}, {99999, 1, 0}, {99999, 2, 1}, {99999, 999, 998}};
            for (int[] row : rows) {
                oneHouse();
                goOn(0, row[0]);
                x.flow(0, row[1]);
                x.days(1);
                due("dial of " + row[0] + " and " + row[1], x.houseOf(0, 2), row[2]);
            }
        });
        edge("When a day passes, the dial goes on by the flow, and from 99999 to 0.", () -> {
            oneHouse();
            x.flow(0, 999);
            for (int day = 1; day <= 303; day++) {
                x.days(1);
                if (day % 100 <= 3) due("dial of day " + day, x.houseOf(0, 2), day * 999 % 100000);
            }
            x.lock(0, true);
            x.days(1);
            due("dial of a locked house", x.houseOf(0, 2), 304 * 999 % 100000);
        });
        edge("When a day passes, the dial goes on by the flow, and from 99999 to 0.", () -> {
            fill(24);
            x.set(0, 0);
            for (int house = 0; house < 24; house++) x.flow(house, 999 - house);
            pass(101);
            for (int house = 0; house < 24; house++) due("dial of house " + house, x.houseOf(house, 2), (999 - house) * 101 % 100000);
        });
    }

    private void used() {
        edge("What is used is how far the dial went on since the latest reading", () -> {
            int[][] rows = {{0, 0}, {0, 1}, {500, 0}, {500, 1}, {500, 99}, {99998, 1}, {99999, 0}, {99999, 1}, {99999, 700}, {1, 99998}};
            for (int[] row : rows) {
                oneHouse();
                goOn(0, row[0]);
                due("used ahead of it", x.houseOf(0, 3), row[0]);
                x.read(0);
                due("used on the day of the reading", x.houseOf(0, 3), 0);
                goOn(0, row[1]);
                due("used of " + row[1] + " since " + row[0], x.houseOf(0, 3), row[1]);
            }
        });
        edge("(or since the meter came)", () -> {
            oneHouse();
            goOn(0, 99999);
            due("since the house came", x.houseOf(0, 3), 99999);
            x.change(0);
            due("used of a new meter", x.houseOf(0, 3), 0);
            goOn(0, 1);
            due("used since it came", x.houseOf(0, 3), 1);
            goOn(0, 99998);
            due("used since it came", x.houseOf(0, 3), 99999);
            goOn(0, 1);
            due("gone round since it came", x.houseOf(0, 3), 0);
        });
        edge("by the dial alone: 0 to 99999 hundredths", () -> {
            int[][] rows = {{0, 99999, 99999}, {0, 100000, 0}, {0, 100001, 1}, {0, 199999, 99999}, {0, 200000, 0}, {1, 99999, 99999},
                {1, 100000, 0}, {500, 99500, 99500}, {500, 99999, 99999}, {500, 100000, 0}, {500, 100001, 1}, {99999, 99999, 99999},
                {99999, 100000, 0}, {99999, 100001, 1}};
            for (int[] row : rows) {
                oneHouse();
                goOn(0, row[0]);
                x.read(0);
                goOn(0, row[1]);
                due("dial of " + row[1] + " since " + row[0], x.houseOf(0, 2), (row[0] + row[1]) % 100000);
                due("used of " + row[1] + " since " + row[0], x.houseOf(0, 3), row[2]);
                x.read(0);
                entry(0, x.count(0), 0, row[2]);
            }
        });
    }

    private void newObject() {
        under("Promise 1: A new object");
        edge("Begins without houses", () -> {
            due("houses", x.count(1), 0);
            due("mean()", x.mean(), NOT_FOUND);
            due("wronged(0)", x.wronged(0), NOT_FOUND);
            due("houseOf(0, 0)", x.houseOf(0, 0), INVALID);
            for (int street = 0; street <= 3; street++) {
                due("next", x.next(street, 0), NOT_FOUND);
                for (int place = 1; place <= 20; place++) due("at", x.at(street, place), NOT_FOUND);
            }
            due("meters in 99 days", x.ifDays(99, 0), 0);
            due("days(99)", x.days(99), 0);
        });
        edge("on the day 0", () -> {
            int[] counts = {0, 0, 0, 0, 0, 0, 0, 0, 0, 0, 0, 10000, 10000, 0, 0, 0, 0};
            for (int what = 0; what < counts.length; what++) due("count(" + what + ")", x.count(what), counts[what]);
            due("ledger(0, 0)", x.ledger(0, 0), NOT_FOUND);
            due("undo()", x.undo(), NOT_POSSIBLE);
            noFault("of no text");
            due("clearText()", x.clearText(), 0);
        });
        edge("`WrongedMeters()`", () -> {
            Counted other = new Counted();
            other.house(1, 1);
            other.set(0, 12);
            other.days(99);
            other.type('d');
            due("houses of this object", x.count(1), 0);
            due("now of this object", x.count(0), 0);
            due("setting 0 of this object", x.count(20), 3);
            due("states of this object", x.count(15), 0);
            due("text of this object", x.count(16), 0);
        });
    }

    private void house() {
        under("Promise 2: house");
        edge("`street`: 0 to 3", () -> range("street", 0, 3, (x, street) -> x.house(street, 5)));
        edge("`place`: 1 to 20", () -> range("place", 1, 20, (x, place) -> x.house(2, place)));
        edge("Returns its number", () -> {
            for (int house = 0; house < 24; house++) due("number", x.house(house % 4, house / 4 + 1), house);
        });
        edge("INVALID_ARGUMENT if an argument is out of range", () -> {
            for (int[] wrong : new int[][] {{-1, 0}, {4, 21}, {0, 0}, {3, 21}, {-1, 1}, {4, 20}, {LEAST, LEAST}, {MOST, MOST}}) {
                due("house(" + wrong[0] + ", " + wrong[1] + ")", x.house(wrong[0], wrong[1]), INVALID);
            }
            due("houses", x.count(1), 0);
        });
        edge("NOT_POSSIBLE if there is one at this place", () -> {
            for (int[] place : new int[][] {{0, 1}, {0, 20}, {3, 1}, {3, 20}, {1, 10}, {1, 11}}) {
                notInvalid("house", x.house(place[0], place[1]));
                due("again", x.house(place[0], place[1]), NOT_POSSIBLE);
            }
            due("houses", x.count(1), 6);
        });
        edge("LIMIT_REACHED if there are 24", () -> {
            fill(24);
            due("house 25", x.house(2, 1), LIMIT);
            x.undo();
            due("house 24 again", x.house(2, 1), 23);
            due("house 25", x.house(2, 2), LIMIT);
        });
    }

    private void flow() {
        under("Promise 3: flow");
        edge("`house`: number of the house", () -> houseNumbers((x, house) -> x.flow(house, 7)));
        edge("`flow`: 0 to 999", () -> {
            x.house(0, 1);
            for (int flow : new int[] {-1, -2, 1000, 1001, 1999, 65536, LEAST, MOST}) due("flow " + flow, x.flow(0, flow), INVALID);
            due("flow 0", x.flow(0, 0), 0);
            due("flow 1", x.flow(0, 1), 0);
            due("flow 998", x.flow(0, 998), 1);
            due("flow 999", x.flow(0, 999), 998);
            due("what it is then", x.houseOf(0, 5), 999);
        });
        edge("Returns what it was", () -> {
            fill(24);
            for (int house = 0; house < 24; house++) due("first", x.flow(house, 900 + house), 0);
            for (int house = 0; house < 24; house++) due("second", x.flow(house, 0), 900 + house);
            due("the same", x.flow(23, 0), 0);
        });
        edge("INVALID_ARGUMENT if an argument is out of range", () -> {
            due("both", x.flow(0, 1000), INVALID);
            x.house(0, 1);
            due("both", x.flow(1, -1), INVALID);
            due("both", x.flow(-1, 1000), INVALID);
            due("flow", x.houseOf(0, 5), 0);
        });
    }

    private void lock() {
        under("Promise 4: lock");
        edge("`house`: number of the house", () -> {
            houseNumbers((x, house) -> x.lock(house, true));
            houseNumbers((x, house) -> x.lock(house, false));
        });
        edge("`isLocked`: whether it is locked then", () -> {
            x.house(0, 1);
            x.lock(0, false);
            due("open", x.houseOf(0, 6), 0);
            x.lock(0, true);
            due("locked", x.houseOf(0, 6), 1);
            x.lock(0, true);
            due("locked still", x.houseOf(0, 6), 1);
            x.lock(0, false);
            due("open again", x.houseOf(0, 6), 0);
        });
        edge("Returns 1 if it was locked, otherwise 0", () -> {
            x.house(0, 1);
            due("open to open", x.lock(0, false), 0);
            due("open to locked", x.lock(0, true), 0);
            due("locked to locked", x.lock(0, true), 1);
            due("locked to open", x.lock(0, false), 1);
            due("open again", x.lock(0, false), 0);
        });
        edge("INVALID_ARGUMENT.", () -> {
            due("without houses", x.lock(0, false), INVALID);
            x.house(0, 1);
            x.lock(0, true);
            due("house 1", x.lock(1, false), INVALID);
            due("house -1", x.lock(-1, false), INVALID);
            due("houses that are locked", x.count(2), 1);
        });
    }

    private void houseOf() {
        under("Promise 9: houseOf");
        edge("`house`: number of the house", () -> {
            houseNumbers((x, house) -> x.houseOf(house, 0));
            houseNumbers((x, house) -> x.houseOf(house, 7));
        });
        edge("`what`: 0: its street", () -> {
            x.house(3, 20);
            range("what", 0, 13, (x, what) -> x.houseOf(0, what));
        });
        edge("1: its place", () -> {
            for (int place = 1; place <= 20; place++) {
                x.house(place % 4, place);
                facts(place - 1, place % 4, place);
            }
        });
        edge("2: the dial", () -> {
            withBalance(50);
            goOn(0, 99949);
            facts(0, 3, 1, 99999, 99949);
            goOn(0, 1);
            facts(0, 3, 1, 0, 99950);
        });
        edge("3: what is used", () -> {
            withBalance(-1);
            goOn(0, 99999);
            facts(0, 3, 1, 0, 99999, 999);
            goOn(0, 1);
            facts(0, 3, 1, 1, 0, 999);
        });
        edge("4: 1000 and the balance, together", () -> {
            for (int balance : new int[] {-98, -50, -49, -1, 0, 1, 49, 50, 51, 98}) {
                withBalance(balance);
                due("balance " + balance, x.houseOf(0, 4), 1000 + balance);
            }
            withBalance(1);
            x.set(2, 1);
            x.set(3, 5);
            x.days(5);
            due("the least balance", x.houseOf(0, 4), 901);
        });
        edge("5: the flow", () -> {
            x.house(0, 1);
            due("at first", x.houseOf(0, 5), 0);
            x.flow(0, 999);
            due("the greatest", x.houseOf(0, 5), 999);
        });
        edge("6: 1 if it is locked, otherwise 0", () -> {
            x.house(0, 1);
            x.house(0, 2);
            x.lock(1, true);
            due("not locked", x.houseOf(0, 6), 0);
            due("locked", x.houseOf(1, 6), 1);
        });
        edge("7: the day of the latest reading", () -> {
            x.house(3, 1);
            x.read(0);
            due("day 0", x.houseOf(0, 7), 0);
            x.days(2);
            due("two days later", x.houseOf(0, 7), 0);
            x.days(1);
            due("read on a walk", x.houseOf(0, 7), 3);
            x.days(1);
            x.change(0);
            due("changed", x.houseOf(0, 7), 4);
        });
        edge("INVALID_ARGUMENT if an argument is out of range", () -> {
            x.house(0, 1);
            for (int what : new int[] {-1, 14, LEAST, MOST}) {
                due("what " + what, x.houseOf(0, what), INVALID);
                due("both", x.houseOf(1, what), INVALID);
            }
            due("house 1", x.houseOf(1, 13), INVALID);
        });
        edge("NOT_FOUND for 7 if it was never read", () -> {
            fill(2);
            due("at first", x.houseOf(0, 7), NOT_FOUND);
            x.lock(0, true);
            pass(99);
            due("locked", x.houseOf(0, 7), NOT_FOUND);
            due("but an open one", x.houseOf(1, 7), 96);
            x.change(0);
            due("changed", x.houseOf(0, 7), 99);
            x.undo();
            due("undone", x.houseOf(0, 7), NOT_FOUND);
        });
    }

    private void houseOfCounts() {
        edge("8: readings so far", () -> {
            x.house(0, 1);
            for (int reading = 1; reading <= 12; reading++) {
                x.change(0);
                due("readings", x.houseOf(0, 8), reading);
            }
            due("read again", x.read(0), NOT_POSSIBLE);
            due("readings", x.houseOf(0, 8), 12);
        });
        edge("9: units billed so far", () -> {
            oneHouse();
            due("at first", x.houseOf(0, 9), 0);
            usedAndRead(49);
            due("none billed", x.houseOf(0, 9), 0);
            usedAndRead(99999);
            due("a full dial", x.houseOf(0, 9), 1000);
        });
        edge("10: readings behind which the house was wronged so far", () -> {
            oneHouse();
            usedAndRead(0);
            due("balance 0", x.houseOf(0, 10), 0);
            usedAndRead(99);
            due("balance 1", x.houseOf(0, 10), 1);
            usedAndRead(1);
            due("balance 0", x.houseOf(0, 10), 1);
            usedAndRead(1);
            due("balance -1", x.houseOf(0, 10), 1);
        });
        edge("11: behind which the company was", () -> {
            oneHouse();
            usedAndRead(0);
            due("balance 0", x.houseOf(0, 11), 0);
            usedAndRead(1);
            due("balance -1", x.houseOf(0, 11), 1);
            usedAndRead(99);
            due("balance 0", x.houseOf(0, 11), 1);
            usedAndRead(99);
            due("balance 1", x.houseOf(0, 11), 1);
        });
        edge("12: refunds so far", () -> {
            withBalance(50);
            x.set(2, 50);
            x.set(3, 5);
            due("none", x.houseOf(0, 12), 0);
            x.days(99);
            due("only one", x.houseOf(0, 12), 1);
        });
        edge("13: meters changed so far", () -> {
            x.house(0, 1);
            due("none", x.houseOf(0, 13), 0);
            x.change(0);
            x.change(0);
            due("two", x.houseOf(0, 13), 2);
            x.read(0);
            x.undo();
            due("one", x.houseOf(0, 13), 1);
        });
    }

    private void at() {
        under("Promise 10: at");
        edge("`street`: 0 to 3", () -> range("street", 0, 3, (x, street) -> x.at(street, 20)));
        edge("`place`: 1 to 20", () -> range("place", 1, 20, (x, place) -> x.at(3, place)));
        edge("Returns the house;", () -> {
            for (int[] place : new int[][] {{0, 1}, {0, 20}, {3, 1}, {3, 20}}) {
                int house = x.house(place[0], place[1]);
                due("at", x.at(place[0], place[1]), house);
            }
            fill(24);
            due("at a place that was tried again", x.at(0, 20), 1);
        });
        edge("INVALID_ARGUMENT if an argument is out of range", () -> {
            fill(24);
            for (int[] wrong : new int[][] {{-1, 0}, {4, 21}, {-1, 1}, {4, 1}, {0, 0}, {0, 21}, {1, -1}}) {
                due("at(" + wrong[0] + ", " + wrong[1] + ")", x.at(wrong[0], wrong[1]), INVALID);
            }
        });
        edge("NOT_FOUND if there is none", () -> {
            due("without houses", x.at(0, 1), NOT_FOUND);
            x.house(0, 1);
            due("behind it", x.at(0, 2), NOT_FOUND);
            due("in the next street", x.at(1, 1), NOT_FOUND);
            due("at the street's end", x.at(0, 20), NOT_FOUND);
            x.undo();
            due("behind undo()", x.at(0, 1), NOT_FOUND);
        });
    }
}
