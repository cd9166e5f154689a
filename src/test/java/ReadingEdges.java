/** Boundary cases of readings, balances, bills, changes of meters, the ledger and the settings. */
final class ReadingEdges extends Edges {
    @Override
    void run() {
        rounding();
        balances();
        reasons();
        changingMeters();
        theLedger();
        theSettings();
        read();
        change();
        set();
        ledger();
        why();
        ifRead();
    }

    /** Rows of: used, units, balance then. */
    private void readings(int balance, int[][] rows) {
        for (int[] row : rows) {
            withBalance(balance);
            due("balance ahead", balance(0), balance);
            goOn(0, row[0]);
            due("units of " + row[0] + " at " + balance + ", told ahead", x.ifRead(0, 0), row[1]);
            due("units of " + row[0] + " at " + balance, x.read(0), row[1]);
            due("balance behind " + row[0] + " at " + balance, balance(0), row[2]);
        }
    }

    private void rounding() {
        under("Terms");
        edge("When the meter is read, whole units are billed for what is used:", () -> {
            oneHouse();
            usedAndRead(0);
            due("nothing used", x.count(4), 0);
            usedAndRead(1);
            due("too little for a unit", x.count(4), 0);
            usedAndRead(99999);
            due("all that can be used", x.count(4), 1000);
        });
        edge("with a balance above 0 the hundredths are rounded down to units", () -> {
            readings(1, new int[][] {{0, 0, 1}, {1, 0, 0}, {2, 0, -1}, {49, 0, -48}, {50, 0, -49}, {51, 0, -50}, {99, 0, -98}, {100, 1, 1},
                {101, 1, 0}, {150, 1, -49}, {199, 1, -98}, {200, 2, 1}, {99999, 999, -98}});
            readings(98, new int[][] {{0, 0, 98}, {97, 0, 1}, {98, 0, 0}, {99, 0, -1}, {100, 1, 98}, {199, 1, -1}, {99999, 999, -1}});
        });
        edge("with a balance below 0 they are rounded up", () -> {
            readings(-1, new int[][] {{0, 0, -1}, {1, 1, 98}, {49, 1, 50}, {50, 1, 49}, {51, 1, 48}, {98, 1, 1}, {99, 1, 0}, {100, 1, -1},
                {101, 2, 98}, {199, 2, 0}, {200, 2, -1}, {99899, 999, 0}, {99900, 999, -1}, {99901, 1000, 98}, {99999, 1000, 0}});
            readings(-98, new int[][] {{0, 0, -98}, {1, 1, 1}, {2, 1, 0}, {3, 1, -1}, {99, 1, -97}, {100, 1, -98}, {101, 2, 1}});
        });
        edge("with a balance of 0 they are rounded to the nearest unit", () -> {
            readings(0, new int[][] {{0, 0, 0}, {1, 0, -1}, {49, 0, -49}, {51, 1, 49}, {99, 1, 1}, {100, 1, 0}, {101, 1, -1}, {149, 1, -49},
                {151, 2, 49}, {99949, 999, -49}, {99951, 1000, 49}, {99999, 1000, 1}});
        });
        edge("and up if both are alike near", () -> {
            readings(0, new int[][] {{50, 1, 50}, {150, 2, 50}, {250, 3, 50}, {99950, 1000, 50}});
        });
    }

    private void balances() {
        edge("A house has a balance in hundredths, 0 at first", () -> {
            fill(24);
            for (int house = 0; house < 24; house++) due("balance", balance(house), 0);
            due("above 0", x.count(9), 0);
            due("below 0", x.count(10), 0);
        });
        edge("above 0 it was billed too much (the house was wronged the last time)", () -> {
            oneHouse();
            usedAndRead(99);
            facts(0, 3, 1, 99, 0, 1001, 0, 0, 1, 1, 1, 1, 0, 0, 0);
            due("houses above 0", x.count(9), 1);
            due("houses below 0", x.count(10), 0);
        });
        edge("below 0 too little (the company was)", () -> {
            oneHouse();
            usedAndRead(1);
            facts(0, 3, 1, 1, 0, 999, 0, 0, 1, 1, 0, 0, 1, 0, 0);
            due("houses above 0", x.count(9), 0);
            due("houses below 0", x.count(10), 1);
        });
        edge("The balance becomes greater by 100 times the units that are billed, and less by the hundredths that are used.", () -> {
            withBalance(-1);
            usedAndRead(1);
            due("the greatest balance by a reading", balance(0), 98);
            withBalance(1);
            usedAndRead(99);
            due("the least balance by a reading", balance(0), -98);
            withBalance(1);
            usedAndRead(99999);
            due("by a full dial at 1", balance(0), -98);
            withBalance(-1);
            usedAndRead(99999);
            due("by a full dial at -1", balance(0), 0);
        });
        edge("The bill is the units times the price (setting 1), in coins.", () -> {
            oneHouse();
            x.set(1, 1);
            usedAndRead(49);
            due("no unit", x.count(5), 0);
            usedAndRead(1);
            due("a unit for 1", x.count(5), 1);
            x.set(1, 50);
            goOn(0, 99999);
            due("a full dial for 50, told ahead", x.ifRead(0, 3), 999 * 50);
            x.read(0);
            due("a full dial for 50", x.count(5), 1 + 999 * 50);
            x.set(1, 49);
            due("bills stay", x.count(5), 1 + 999 * 50);
        });
    }

    private void reasons() {
        edge("1 it is locked", () -> {
            x.house(0, 1);
            x.lock(0, true);
            due("why()", x.why(0), 1);
            due("read()", x.read(0), NOT_POSSIBLE);
            due("read on a walk", x.days(4), 0);
        });
        edge("2 it was read on this day", () -> {
            x.house(0, 1);
            x.read(0);
            due("why()", x.why(0), 2);
            due("read()", x.read(0), NOT_POSSIBLE);
            x.days(1);
            due("why() on the next day", x.why(0), 0);
            due("read() on the next day", x.read(0), 0);
        });
        edge("A house is not read, for the first of these reasons that is so", () -> {
            x.house(0, 1);
            x.read(0);
            x.lock(0, true);
            due("both", x.why(0), 1);
            due("read()", x.read(0), NOT_POSSIBLE);
            x.lock(0, false);
            due("the second one is left", x.why(0), 2);
            x.lock(0, true);
            x.days(1);
            due("the first one is left", x.why(0), 1);
        });
    }

    private void changingMeters() {
        edge("When a meter is changed, it is read first", () -> {
            oneHouse();
            goOn(0, 99999);
            due("a full dial", x.change(0), 1000);
            entry(0, x.count(0), 0, 99999, 1000, 1, 1001);
            due("nothing used", x.change(0), 0);
            entry(0, x.count(0), 0, 0, 0, 2, 1001);
            due("readings", x.houseOf(0, 8), 2);
        });
        edge("also if the house is locked", () -> {
            oneHouse();
            goOn(0, 100);
            x.lock(0, true);
            due("units", x.change(0), 1);
            due("it stays locked", x.houseOf(0, 6), 1);
            facts(0, 3, 1, 0, 0, 1000, 0, 1, 1, 1, 1, 0, 0, 0, 1);
        });
        edge("or was read on this day", () -> {
            oneHouse();
            goOn(0, 100);
            x.read(0);
            due("units", x.change(0), 0);
            facts(0, 3, 1, 0, 0, 1000, 0, 0, 1, 2, 1, 0, 0, 0, 1);
            x.lock(0, true);
            due("locked as well", x.change(0), 0);
            facts(0, 3, 1, 0, 0, 1000, 0, 1, 1, 3, 1, 0, 0, 0, 2);
        });
        edge("that is a reading of this day", () -> {
            oneHouse();
            x.days(5);
            x.change(0);
            due("its day", x.houseOf(0, 7), 5);
            due("why()", x.why(0), 2);
            due("read()", x.read(0), NOT_POSSIBLE);
            x.days(1);
            due("why() on the next day", x.why(0), 0);
        });
        edge("the new one begins with the dial 0", () -> {
            oneHouse();
            goOn(0, 99999);
            x.change(0);
            due("dial", x.houseOf(0, 2), 0);
            due("used", x.houseOf(0, 3), 0);
            x.flow(0, 999);
            x.days(1);
            due("dial a day later", x.houseOf(0, 2), 999);
            due("used a day later", x.houseOf(0, 3), 999);
            x.change(0);
            due("dial of the next one", x.houseOf(0, 2), 0);
            due("flow", x.houseOf(0, 5), 999);
        });
    }

    private void theLedger() {
        edge("Each reading is an entry.", () -> {
            x.house(0, 1);
            due("none", x.count(14), 0);
            x.read(0);
            due("by read()", x.count(14), 1);
            x.change(0);
            due("by change()", x.count(14), 2);
            x.days(4);
            due("by a walk", x.count(14), 3);
            x.lock(0, true);
            x.read(0);
            x.days(4);
            due("not read", x.count(14), 3);
            text("l0;c0;d4;");
            x.play();
            due("by an order, and on its walk", x.count(14), 5);
        });
        edge("The latest 10 are kept.", () -> {
            fill(24);
            for (int house = 0; house < 9; house++) x.read(house);
            readHouses(8, 7, 6, 5, 4, 3, 2, 1, 0);
            x.read(9);
            readHouses(9, 8, 7, 6, 5, 4, 3, 2, 1, 0);
            x.read(10);
            readHouses(10, 9, 8, 7, 6, 5, 4, 3, 2, 1);
            for (int house = 11; house < 20; house++) x.read(house);
            readHouses(19, 18, 17, 16, 15, 14, 13, 12, 11, 10);
            x.read(20);
            readHouses(20, 19, 18, 17, 16, 15, 14, 13, 12, 11);
            x.read(21);
            readHouses(21, 20, 19, 18, 17, 16, 15, 14, 13, 12);
            due("readings", x.count(3), 22);
            x.undo();
            x.undo();
            x.undo();
            readHouses(18, 17, 16, 15, 14, 13, 12, 11, 10, 9);
            x.set(0, 12);
            due("a walk with 12 readings", x.days(4), 16);
            readHouses(17, 19, 18, 16, 14, 12, 10, 8, 6, 4);
        });
    }

    private void theSettings() {
        int[][] ranges = {{0, 12, 3}, {1, 50, 7}, {1, 99, 50}, {5, 400, 60}};
        String[] sentences = {"0 houses a day (0 to 12; 3)", "1 the price (1 to 50; 7)", "2 hundredths for a refund (1 to 99; 50)",
            "3 days of a year (5 to 400; 60)"};
        for (int setting = 0; setting < 4; setting++) {
            int what = setting;
            edge(sentences[what], () -> {
                due("first value", x.count(20 + what), ranges[what][2]);
                range("value", ranges[what][0], ranges[what][1], (x, value) -> x.set(what, value));
                due("greatest value", x.set(what, ranges[what][0]), ranges[what][1]);
                due("least value", x.count(20 + what), ranges[what][0]);
                for (int other = 0; other < 4; other++) {
                    if (other != what) due("another setting", x.count(20 + other), ranges[other][2]);
                }
            });
        }
    }

    private void read() {
        under("Promise 5: read");
        edge("`house`: number of the house", () -> houseNumbers((x, house) -> x.read(house)));
        edge("Returns the units that are billed", () -> {
            oneHouse();
            due("none", x.read(0), 0);
            goOn(0, 49);
            due("rounded to none", x.read(0), 0);
            goOn(0, 1);
            due("one", x.read(0), 1);
            goOn(0, 99901);
            due("by a full dial", x.read(0), 999);
        });
        edge("INVALID_ARGUMENT;", () -> {
            due("without houses", x.read(0), INVALID);
            x.house(0, 1);
            x.lock(0, true);
            due("house 1", x.read(1), INVALID);
            due("house -1", x.read(-1), INVALID);
        });
        edge("NOT_POSSIBLE for the reasons 1 and 2", () -> {
            x.house(0, 1);
            x.lock(0, true);
            due("locked", x.read(0), NOT_POSSIBLE);
            x.lock(0, false);
            due("open", x.read(0), 0);
            due("read on this day", x.read(0), NOT_POSSIBLE);
            x.lock(0, true);
            due("both", x.read(0), NOT_POSSIBLE);
            x.lock(0, false);
            x.days(4);
            due("read on this day's walk", x.read(0), NOT_POSSIBLE);
            x.days(1);
            x.change(0);
            due("changed on this day", x.read(0), NOT_POSSIBLE);
            due("readings", x.houseOf(0, 8), 3);
        });
    }

    private void change() {
        under("Promise 6: change");
        edge("`house`: number of the house", () -> houseNumbers((x, house) -> x.change(house)));
        edge("Returns the units that are billed", () -> {
            oneHouse();
            due("none", x.change(0), 0);
            goOn(0, 50);
            due("one", x.change(0), 1);
            goOn(0, 99);
            due("rounded to none", x.change(0), 0);
            goOn(0, 99901);
            due("by a full dial", x.change(0), 1000);
        });
        edge("INVALID_ARGUMENT.", () -> {
            due("without houses", x.change(0), INVALID);
            x.house(0, 1);
            due("house 1", x.change(1), INVALID);
            due("house -1", x.change(-1), INVALID);
            due("readings", x.count(3), 0);
        });
    }

    private void set() {
        under("Promise 8: set");
        edge("`what`: 0 to 3", () -> range("what", 0, 3, (x, what) -> x.set(what, 5)));
        edge("`value`: a value in its range", () -> {
            int[][] accepted = {{0, 12}, {1, 50}, {1, 99}, {5, 400}};
            for (int what = 0; what < 4; what++) {
                for (int value : new int[] {-1, 0, 1, 4, 5, 12, 13, 50, 51, 99, 100, 400, 401, LEAST, MOST}) {
                    boolean isIn = value >= accepted[what][0] && value <= accepted[what][1];
                    due("set(" + what + ", " + value + ")", x.set(what, value) == INVALID ? 0 : 1, isIn ? 1 : 0);
                }
            }
        });
        edge("Returns what it was", () -> {
            due("the first value", x.set(0, 12), 3);
            due("the greatest", x.set(0, 0), 12);
            due("the least", x.set(0, 0), 0);
            due("the same", x.count(20), 0);
        });
        edge("INVALID_ARGUMENT if an argument is out of range", () -> {
            due("both", x.set(4, 401), INVALID);
            due("both", x.set(-1, -1), INVALID);
            due("what alone", x.set(4, 5), INVALID);
            due("value alone", x.set(0, 13), INVALID);
            due("states", x.count(15), 0);
        });
    }

    private void ledger() {
        under("Promise 12: ledger");
        edge("`ago`: 0 for the latest one", () -> {
            fill(12);
            due("none", x.ledger(0, 0), NOT_FOUND);
            x.read(0);
            due("the only one", x.ledger(0, 1), 0);
            due("behind it", x.ledger(1, 1), NOT_FOUND);
            for (int house = 1; house < 12; house++) x.read(house);
            due("the latest one", x.ledger(0, 1), 11);
            due("the oldest one", x.ledger(9, 1), 2);
            due("behind it", x.ledger(10, 1), NOT_FOUND);
            due("and behind that", x.ledger(11, 1), NOT_FOUND);
        });
        edge("`what`: 0: the day", () -> {
            due("empty, what 6", x.ledger(0, 6), INVALID);
            x.house(0, 1);
            x.read(0);
            due("day 0", x.ledger(0, 0), 0);
            range("what", 0, 5, (x, what) -> x.ledger(0, what));
        });
        edge("1: the house", () -> {
            fill(24);
            x.read(23);
            x.read(0);
            readHouses(0, 23);
        });
        edge("2: the hundredths that were used", () -> {
            oneHouse();
            usedAndRead(99999);
            due("a full dial", x.ledger(0, 2), 99999);
            usedAndRead(0);
            due("nothing", x.ledger(0, 2), 0);
            usedAndRead(100000);
            due("gone round", x.ledger(0, 2), 0);
        });
        edge("3: the units that were billed", () -> {
            oneHouse();
            usedAndRead(99999);
            due("a full dial", x.ledger(0, 3), 1000);
            usedAndRead(99999);
            due("a full dial at 1", x.ledger(0, 3), 999);
            usedAndRead(0);
            due("nothing", x.ledger(0, 3), 0);
        });
        edge("4: 0 if they were rounded down, 1 up, 2 if there was nothing to round", () -> {
            int[][] rows = {{0, 0, 2}, {0, 1, 0}, {0, 49, 0}, {0, 50, 1}, {0, 99, 1}, {0, 100, 2}, {0, 101, 0}, {1, 0, 2}, {1, 1, 0}, {1, 99, 0},
                {1, 100, 2}, {1, 101, 0}, {-1, 0, 2}, {-1, 1, 1}, {-1, 99, 1}, {-1, 100, 2}, {-1, 101, 1}, {1, 99900, 2}, {-1, 99999, 1}};
            for (int[] row : rows) {
                withBalance(row[0]);
                usedAndRead(row[1]);
                due(row[1] + " at " + row[0], x.ledger(0, 4), row[2]);
            }
        });
        edge("5: 1000 and the balance behind it, together", () -> {
            int[][] rows = {{-1, 1, 1098}, {1, 99, 902}, {0, 0, 1000}, {0, 50, 1050}, {0, 49, 951}};
            for (int[] row : rows) {
                withBalance(row[0]);
                usedAndRead(row[1]);
                due("behind " + row[1] + " at " + row[0], x.ledger(0, 5), row[2]);
            }
            withBalance(50);
            x.set(2, 50);
            x.set(3, 5);
            x.days(5);
            due("a refund is no reading", x.ledger(0, 5), 1050);
            due("balance", balance(0), -50);
        });
        edge("INVALID_ARGUMENT if an argument is out of range (ago is not below 0)", () -> {
            x.house(0, 1);
            x.read(0);
            for (int ago : new int[] {-1, -2, LEAST}) {
                for (int what : new int[] {0, 5, -1, 6}) due("ledger(" + ago + ", " + what + ")", x.ledger(ago, what), INVALID);
            }
            for (int what : new int[] {-1, 6, LEAST, MOST}) due("ledger(0, " + what + ")", x.ledger(0, what), INVALID);
        });
        edge("NOT_FOUND if there are not so many", () -> {
            for (int ago : new int[] {0, 1, 9, 10, MOST}) due("empty, ago " + ago, x.ledger(ago, 0), NOT_FOUND);
            fill(10);
            for (int house = 0; house < 10; house++) {
                due("ahead of a reading", x.ledger(house, 5), NOT_FOUND);
                x.read(house);
                due("behind it", x.ledger(house, 5), 1000);
            }
            for (int ago : new int[] {10, 11, 256, MOST}) due("full, ago " + ago, x.ledger(ago, 0), NOT_FOUND);
            for (int left = 9; left >= 6; left--) {
                x.undo();
                due("undone, the oldest one", x.ledger(left - 1, 1), 0);
                due("undone, behind it", x.ledger(left, 0), NOT_FOUND);
                due("undone, entries", x.count(14), left);
            }
        });
    }

    private void why() {
        under("Promise 13: why");
        edge("`house`: number of the house", () -> houseNumbers((x, house) -> x.why(house)));
        edge("Returns the reason, 0 if it can be read", () -> {
            fill(2);
            due("never read, on day 0", x.why(0), 0);
            x.change(0);
            due("changed on day 0", x.why(0), 2);
            due("another one", x.why(1), 0);
            x.undo();
            due("undone", x.why(0), 0);
            x.days(4);
            due("read on a walk", x.why(0), 2);
            x.lock(0, true);
            due("locked as well", x.why(0), 1);
        });
        edge("INVALID_ARGUMENT.", () -> {
            due("without houses", x.why(0), INVALID);
            x.house(0, 1);
            due("house 1", x.why(1), INVALID);
            due("house -1", x.why(-1), INVALID);
        });
    }

    private void ifRead() {
        under("Promise 14: ifRead");
        edge("`house`: number of the house", () -> {
            houseNumbers((x, house) -> x.ifRead(house, 0));
            houseNumbers((x, house) -> x.ifRead(house, 3));
        });
        edge("(whatever why() tells)", () -> {
            withBalance(1);
            goOn(0, 199);
            x.lock(0, true);
            due("locked", x.ifRead(0, 0), 1);
            due("locked", x.ifRead(0, 1), 902);
            x.change(0);
            due("read on this day", x.ifRead(0, 0), 0);
            due("read on this day", x.ifRead(0, 1), 902);
            due("read on this day", x.ifRead(0, 2), 2);
            due("readings", x.houseOf(0, 8), 2);
        });
        edge("`what`: 0: the units", () -> {
            oneHouse();
            range("what", 0, 3, (x, what) -> x.ifRead(0, what));
            due("nothing used", x.ifRead(0, 0), 0);
            goOn(0, 99999);
            due("a full dial", x.ifRead(0, 0), 1000);
        });
        edge("1: 1000 and the balance then, together", () -> {
            withBalance(-1);
            goOn(0, 1);
            due("the greatest", x.ifRead(0, 1), 1098);
            withBalance(1);
            goOn(0, 99);
            due("the least", x.ifRead(0, 1), 902);
            due("the balance stays", balance(0), 1);
        });
        edge("2: who would be wronged: 1 the house, 2 the company, 0 nobody", () -> {
            int[][] rows = {{0, 0, 0}, {0, 1, 2}, {0, 49, 2}, {0, 50, 1}, {0, 99, 1}, {0, 100, 0}, {2, 0, 1}, {2, 1, 1}, {2, 2, 0}, {2, 3, 2},
                {-2, 0, 2}, {-2, 1, 1}, {-2, 97, 1}, {-2, 98, 0}, {-2, 99, 2}, {-2, 100, 2}};
            for (int[] row : rows) {
                withBalance(row[0]);
                goOn(0, row[1]);
                due(row[1] + " at " + row[0], x.ifRead(0, 2), row[2]);
            }
        });
        edge("3: the bill in coins", () -> {
            oneHouse();
            x.set(1, 50);
            due("nothing used", x.ifRead(0, 3), 0);
            goOn(0, 99999);
            due("the greatest bill", x.ifRead(0, 3), 50000);
            x.set(1, 1);
            due("for 1", x.ifRead(0, 3), 1000);
            due("no bill", x.count(5), 0);
        });
        edge("INVALID_ARGUMENT if an argument is out of range", () -> {
            x.house(0, 1);
            for (int what : new int[] {-1, 4, LEAST, MOST}) {
                due("what " + what, x.ifRead(0, what), INVALID);
                due("both", x.ifRead(1, what), INVALID);
            }
            due("house 1", x.ifRead(1, 0), INVALID);
        });
    }
}
