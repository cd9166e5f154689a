/** Boundary cases of what would be: the most wronged, refunds and days to come, the mean and the counts. */
final class WouldBeEdges extends Edges {
    @Override
    void run() {
        wronged();
        refundIn();
        ifDays();
        mean();
        counts();
        countsOfReadings();
        countsOfBalances();
        countsOfTheRest();
    }

    /** So many houses, of which each uses so many hundredths and is read; they get no refunds then. */
    private void housesUsing(int... hundredths) {
        begin();
        x.set(0, 0);
        x.set(2, 99);
        fill(hundredths.length);
        for (int house = 0; house < hundredths.length; house++) x.flow(house, hundredths[house]);
        x.days(1);
        for (int house = 0; house < hundredths.length; house++) x.read(house);
    }

    private int[] alike24(int hundredths) {
        int[] all = new int[24];
        for (int house = 0; house < 24; house++) all[house] = hundredths;
        return all;
    }

    private void ranks(int... wanted) {
        int[] got = new int[wanted.length];
        for (int rank = 0; rank < wanted.length; rank++) got[rank] = x.wronged(rank);
        alike("wronged(0 to " + (wanted.length - 1) + ")", got, wanted);
        due("wronged() behind the last one", x.wronged(wanted.length), NOT_FOUND);
    }

    private void wronged() {
        under("Promise 15: wronged");
        edge("`rank`: 0 for the one with the greatest balance, and so on", () -> {
            housesUsing(49, 0, 50, 99, 1);
            ranks(2, 3, 1, 4, 0);
        });
        edge("of several the lowest number first", () -> {
            housesUsing(alike24(0));
            ranks(0, 1, 2, 3, 4, 5, 6, 7, 8, 9, 10, 11, 12, 13, 14, 15, 16, 17, 18, 19, 20, 21, 22, 23);
            housesUsing(50, 1, 50, 1, 50, 0, 100);
            ranks(0, 2, 4, 5, 6, 1, 3);
        });
        edge("Returns the house", () -> {
            fill(1);
            ranks(0);
            int[] falling = new int[24];
            for (int house = 0; house < 24; house++) falling[house] = 73 - house;
            housesUsing(falling);
            ranks(23, 22, 21, 20, 19, 18, 17, 16, 15, 14, 13, 12, 11, 10, 9, 8, 7, 6, 5, 4, 3, 2, 1, 0);
        });
        edge("INVALID_ARGUMENT if rank is below 0", () -> {
            for (int rank : new int[] {-1, -2, -24, LEAST}) due("without houses, rank " + rank, x.wronged(rank), INVALID);
            fill(24);
            for (int rank : new int[] {-1, -2, -24, LEAST}) due("with 24 houses, rank " + rank, x.wronged(rank), INVALID);
        });
        edge("NOT_FOUND if there are not so many", () -> {
            for (int rank : new int[] {0, 1, 23, MOST}) due("without houses, rank " + rank, x.wronged(rank), NOT_FOUND);
            fill(24);
            for (int rank : new int[] {24, 25, 256, MOST}) due("with 24 houses, rank " + rank, x.wronged(rank), NOT_FOUND);
            x.undo();
            due("undone", x.wronged(23), NOT_FOUND);
            due("the last one", x.wronged(22), 22);
        });
    }

    private void refundIn() {
        under("Promise 16: refundIn");
        edge("`house`: number of the house", () -> houseNumbers((x, house) -> x.refundIn(house)));
        edge("Tells in how many days a house gets its next refund, if nothing else is done.", () -> {
            withBalance(50);
            x.set(2, 50);
            x.set(3, 5);
            due("on day 1", x.refundIn(0), 4);
            x.days(3);
            due("on the day ahead of it", x.refundIn(0), 1);
            x.set(2, 51);
            due("with a balance of one less", x.refundIn(0), NOT_FOUND);
            x.set(2, 49);
            due("with a balance of one more", x.refundIn(0), 1);
            x.days(1);
            due("refunds", x.houseOf(0, 12), 1);
            due("on the day of it, with less then", x.refundIn(0), NOT_FOUND);
        });
        edge("Returns how many", () -> {
            withBalance(50);
            x.set(3, 400);
            pass(399);
            due("now", x.count(0), 400);
            due("a year ended, without a refund", x.count(13), 1);
            x.set(2, 50);
            due("a year later", x.refundIn(0), 400);
            x.lock(0, true);
            due("also if it is locked", x.refundIn(0), 400);
            x.days(1);
            due("a day later", x.refundIn(0), 399);
        });
        edge("NOT_FOUND if that is not within 400", () -> {
            // Read every 4 days for 4 hundredths, its balance is -4 on day 204, and 92 on day 408.
            x.house(0, 1);
            x.flow(0, 1);
            x.set(2, 92);
            x.set(3, 204);
            x.days(6);
            due("in 402 days", x.refundIn(0), NOT_FOUND);
            x.days(1);
            due("in 401 days", x.refundIn(0), NOT_FOUND);
            x.days(1);
            due("in 400 days", x.refundIn(0), 400);
            x.days(1);
            due("in 399 days", x.refundIn(0), 399);
            pass(398);
            due("refunds on the day ahead of it", x.houseOf(0, 12), 0);
            due("in 1 day", x.refundIn(0), 1);
            x.days(1);
            due("refunds", x.houseOf(0, 12), 1);
        });
        edge("INVALID_ARGUMENT;", () -> {
            due("without houses", x.refundIn(0), INVALID);
            x.house(0, 1);
            due("never", x.refundIn(0), NOT_FOUND);
            due("house 1", x.refundIn(1), INVALID);
        });
    }

    private void ifDays() {
        under("Promise 17: ifDays");
        edge("`many`: 1 to 99", () -> {
            fill(1);
            for (int what = 0; what <= 2; what++) {
                int of = what;
                range("many", 1, 99, (x, many) -> x.ifDays(many, of));
                due("99 days, " + what, x.ifDays(99, what), what == 0 ? 24 : 0);
            }
            due("now", x.count(0), 0);
        });
        edge("`what`: 0: meters that would be read", () -> {
            range("what", 0, 2, (x, what) -> x.ifDays(99, what));
            fill(1);
            due("in 3 days", x.ifDays(3, 0), 0);
            due("in 4 days", x.ifDays(4, 0), 1);
            due("in 7 days", x.ifDays(7, 0), 1);
            due("in 8 days", x.ifDays(8, 0), 2);
            x.days(8);
            due("in 4 days behind two readings", x.ifDays(4, 0), 1);
            x.set(0, 0);
            due("with none a day", x.ifDays(99, 0), 0);
        });
        edge("1: units that would be billed", () -> {
            fill(1);
            x.flow(0, 999);
            due("in 3 days", x.ifDays(3, 1), 0);
            due("in 4 days", x.ifDays(4, 1), 40);
            due("in 8 days", x.ifDays(8, 1), 40 + 39);
            due("units", x.count(4), 0);
            x.days(4);
            due("units", x.count(4), 40);
            due("in 4 days behind a bill", x.ifDays(4, 1), 39);
            x.lock(0, true);
            due("if it is locked", x.ifDays(99, 1), 0);
        });
        edge("2: refunds", () -> {
            withBalance(50);
            x.set(2, 50);
            due("in 58 days", x.ifDays(58, 2), 0);
            due("in 59 days", x.ifDays(59, 2), 1);
            due("in 99 days", x.ifDays(99, 2), 1);
            due("refunds", x.count(7), 0);
            x.days(59);
            due("refunds", x.count(7), 1);
            due("in 99 days behind one", x.ifDays(99, 2), 0);
        });
        edge("INVALID_ARGUMENT if an argument is out of range", () -> {
            for (int many : new int[] {0, 100, -1, 1, 99}) {
                for (int what : new int[] {-1, 3, LEAST, MOST}) due("ifDays(" + many + ", " + what + ")", x.ifDays(many, what), INVALID);
            }
            for (int what = 0; what <= 2; what++) {
                due("no days", x.ifDays(0, what), INVALID);
                due("100 days", x.ifDays(100, what), INVALID);
            }
        });
        edge("Tells what days would bring, if nothing else is done.", () -> {
            pass(9998);
            x.house(3, 1);
            x.flow(0, 50);
            x.set(3, 101);
            due("meters read on the last day", x.ifDays(1, 0), 1);
            due("units billed on it", x.ifDays(1, 1), 1);
            due("refunds on it", x.ifDays(1, 2), 1);
            due("now", x.count(0), 9998);
        });
    }

    private void mean() {
        under("Promise 18: mean");
        edge("Returns the mean of the balances without their signs, as a float", () -> {
            housesUsing(50);
            due("of 50", x.mean(), Float.floatToIntBits(50f));
            housesUsing(49);
            due("of -49", x.mean(), Float.floatToIntBits(49f));
            housesUsing(50, 50, 40, 40, 20);
            due("of both", x.mean(), Float.floatToIntBits(200f / 5f));
            housesUsing(alike24(0));
            due("of 24 without a balance", x.mean(), 0);
        });
        edge("these together, as a float, divided by how many houses there are, as a float", () -> {
            for (int least = 0; least <= 50; least += 50) {
                for (int houses = 1; houses <= 24; houses++) {
                    int[] hundredths = new int[houses];
                    int sum = 0;
                    for (int house = 0; house < houses; house++) {
                        hundredths[house] = least + house % 2;
                        sum += least == 0 ? house % 2 : 50 - house % 2;
                    }
                    housesUsing(hundredths);
                    due(sum + " by " + houses, x.mean(), Float.floatToIntBits((float) sum / (float) houses));
                }
            }
        });
        edge("Returns the bits of the float", () -> {
            for (int balance = -98; balance <= 98; balance++) {
                withBalance(balance);
                int sum = Math.abs(balance);
                for (int houses = 1; houses <= 24; houses++) {
                    due(sum + " by " + houses, x.mean(), Float.floatToIntBits((float) sum / (float) houses));
                    x.house(houses / 20, houses % 20 + 1);
                }
            }
            withBalance(1);
            fill(23);
            due("a 24th of 1", x.mean(), 0x3D2AAAAB);
            withBalance(98);
            due("98", x.mean(), 0x42C40000);
        });
        edge("NOT_FOUND without houses", () -> {
            due("at first", x.mean(), NOT_FOUND);
            x.house(0, 1);
            due("with one", x.mean(), 0);
            x.undo();
            due("undone", x.mean(), NOT_FOUND);
        });
    }

    private void counts() {
        under("Promise 19: count");
        edge("INVALID_ARGUMENT if what is out of range", () -> {
            for (int what : new int[] {-1, -2, 17, 18, 19, 24, 25, 276, LEAST, MOST}) due("count(" + what + ")", x.count(what), INVALID);
            for (int what = 0; what <= 16; what++) notInvalid("count(" + what + ")", x.count(what));
            for (int what = 20; what <= 23; what++) notInvalid("count(" + what + ")", x.count(what));
        });
        edge("`what`: 0: now", () -> {
            due("the first day", x.count(0), 0);
            toTheLastDay();
            due("the last day", x.count(0), 9999);
        });
        edge("1: houses", () -> {
            for (int house = 0; house < 24; house++) {
                due("houses", x.count(1), house);
                x.house(house % 4, house / 4 + 1);
            }
            due("all", x.count(1), 24);
            x.house(3, 20);
            due("no more", x.count(1), 24);
        });
        edge("2: houses that are locked", () -> {
            fill(24);
            due("none", x.count(2), 0);
            for (int house = 23; house >= 0; house--) {
                x.lock(house, true);
                due("locked", x.count(2), 24 - house);
            }
            x.lock(0, true);
            due("locked again", x.count(2), 24);
            x.lock(0, false);
            due("open again", x.count(2), 23);
        });
    }

    private void countsOfReadings() {
        edge("3: readings so far", () -> {
            fill(24);
            x.set(0, 12);
            for (int house = 0; house < 24; house++) x.read(house);
            due("more than are kept", x.count(3), 24);
            x.change(0);
            due("by a change", x.count(3), 25);
            x.days(1);
            due("by a walk", x.count(3), 29);
            x.days(2);
            due("by walks past no house", x.count(3), 29);
        });
        edge("4: units billed so far", () -> {
            oneHouse();
            usedAndRead(49);
            due("none", x.count(4), 0);
            usedAndRead(1);
            due("one", x.count(4), 1);
            goOn(0, 99999);
            due("not billed yet", x.count(4), 1);
            x.change(0);
            due("a full dial", x.count(4), 1000);
        });
        edge("5: coins of bills so far", () -> {
            oneHouse();
            x.set(1, 50);
            usedAndRead(99999);
            due("for 50", x.count(5), 50000);
            x.set(1, 1);
            due("not by the price of now", x.count(5), 50000);
            goOn(0, 100);
            x.change(0);
            due("for 1", x.count(5), 50001);
        });
        edge("6: hundredths that were read so far", () -> {
            oneHouse();
            goOn(0, 99999);
            due("not read", x.count(6), 0);
            x.read(0);
            due("a full dial", x.count(6), 99999);
            usedAndRead(100000);
            due("once round", x.count(6), 99999);
            usedAndRead(1);
            due("one more", x.count(6), 100000);
        });
        edge("14: entries of the ledger that are kept", () -> {
            x.house(0, 1);
            for (int reading = 0; reading <= 12; reading++) {
                due("behind " + reading, x.count(14), Math.min(reading, 10));
                x.change(0);
            }
        });
    }

    private void countsOfBalances() {
        edge("7: refunds so far", () -> {
            housesUsing(50, 50, 49);
            x.set(2, 50);
            x.days(58);
            due("ahead of the year's end", x.count(7), 0);
            x.days(1);
            due("of two houses", x.count(7), 2);
        });
        edge("8: coins paid back so far", () -> {
            housesUsing(50, 51);
            x.set(2, 50);
            x.set(1, 50);
            x.days(59);
            due("for 50", x.count(8), 50);
            x.set(2, 1);
            x.set(1, 1);
            x.days(60);
            due("and for 1", x.count(8), 51);
        });
        edge("9: houses with a balance above 0", () -> {
            housesUsing(0, 99, 1, 100, 50, 49);
            due("above 0", x.count(9), 2);
            housesUsing(alike24(99));
            due("all", x.count(9), 24);
            housesUsing(alike24(100));
            due("none", x.count(9), 0);
        });
        edge("10: below 0", () -> {
            housesUsing(0, 99, 1, 100, 50, 49, 101);
            due("below 0", x.count(10), 3);
            housesUsing(alike24(1));
            due("all", x.count(10), 24);
            housesUsing(alike24(0));
            due("none", x.count(10), 0);
        });
        edge("11: 10000 and all balances, together, told house by house", () -> {
            housesUsing(alike24(50));
            due("24 of 50", x.count(11), 10000 + 24 * 50);
            housesUsing(alike24(49));
            due("24 of -49", x.count(11), 10000 - 24 * 49);
            for (int house = 0; house < 24; house++) x.flow(house, house % 2);
            x.days(1);
            for (int house = 0; house < 24; house++) x.change(house);
            due("12 of -49 and 12 of 50", x.count(11), 10000 - 12 * 49 + 12 * 50);
        });
        edge("12: the same, told by 10000 and 100 times the units billed, together", () -> {
            housesUsing(alike24(50));
            due("24 of 50", x.count(12), 10000 + 24 * 50);
            x.set(2, 50);
            x.days(59);
            due("behind 24 refunds", x.count(12), 10000 - 24 * 50);
            due("house by house", x.count(11), 10000 - 24 * 50);
            housesUsing(alike24(99));
            x.set(2, 1);
            x.days(59);
            due("the least of all", x.count(12), 10000 - 24 * 99);
            due("the least of all, house by house", x.count(11), 10000 - 24 * 99);
            housesUsing(alike24(1));
            x.days(1);
            for (int house = 0; house < 24; house++) x.change(house);
            due("the greatest of all", x.count(12), 10000 + 24 * 98);
            due("the greatest of all, house by house", x.count(11), 10000 + 24 * 98);
        });
    }

    private void countsOfTheRest() {
        edge("13: years that ended so far", () -> {
            due("at first", x.count(13), 0);
            x.set(3, 5);
            toTheLastDay();
            due("on the last day", x.count(13), 9999 / 5);
        });
        edge("15: states in the history", () -> {
            for (int states = 0; states <= 6; states++) {
                due("states", x.count(15), Math.min(states, 4));
                x.set(0, states);
            }
            for (int states = 3; states >= 0; states--) {
                x.undo();
                due("states", x.count(15), states);
            }
        });
        edge("16: the length of the text", () -> {
            for (int length = 0; length <= 60; length++) {
                due("length", x.count(16), length);
                x.type(32 + length);
            }
            due("full", x.count(16), 60);
            x.clearText();
            due("empty", x.count(16), 0);
        });
        edge("20 to 23: the settings 0 to 3", () -> {
            int[][] ranges = {{0, 12, 3}, {1, 50, 7}, {1, 99, 50}, {5, 400, 60}};
            for (int what = 0; what < 4; what++) {
                due("first", x.count(20 + what), ranges[what][2]);
                x.set(what, ranges[what][0]);
                due("least", x.count(20 + what), ranges[what][0]);
                x.set(what, ranges[what][1]);
                due("greatest", x.count(20 + what), ranges[what][1]);
            }
        });
    }
}
