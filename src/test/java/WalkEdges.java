/** Boundary cases of days, walks through streets, and the ends of years. */
final class WalkEdges extends Edges {
    @Override
    void run() {
        whichStreet();
        whichOrder();
        whereItBegins();
        howMany();
        passedBy();
        ends();
        refunds();
        days();
        theLastDay();
        next();
    }

    /** Houses at places of a street, numbered as they are told. */
    private void housesAt(int street, int... places) {
        for (int place : places) x.house(street, place);
    }

    private void whichStreet() {
        under("Terms");
        edge("When a day passes, the dials go on, and now is 1 more.", () -> {
            housesAt(1, 1);
            x.flow(0, 250);
            due("read on the first day", x.days(1), 1);
            due("now", x.count(0), 1);
            entry(0, 1, 0, 250, 3, 1, 1050);
        });
        edge("Then the reader walks through the street that is left over of now by 4", () -> {
            for (int street = 0; street <= 3; street++) x.house(street, 1);
            for (int day = 1; day <= 9; day++) {
                due("read on day " + day, x.days(1), 1);
                due("street of day " + day, x.ledger(0, 1), day % 4);
            }
            due("read in 99 days", x.days(99), 99);
            due("readings of street 0", x.houseOf(0, 8), 108 / 4);
            due("readings of street 3", x.houseOf(3, 8), 108 / 4);
        });
    }

    private void whichOrder() {
        edge("past the houses with odd places, the least first", () -> {
            housesAt(0, 19, 1, 5, 3, 17);
            order(0, 1, 3, 2, 4, 0);
            x.set(0, 5);
            due("all are read", x.days(4), 5);
            readHouses(0, 4, 2, 3, 1);
        });
        edge("then past those with even places, the greatest first", () -> {
            housesAt(0, 2, 20, 18, 4, 19, 1);
            order(0, 5, 4, 1, 2, 3, 0);
            x.set(0, 6);
            due("all are read", x.days(4), 6);
            readHouses(0, 3, 2, 1, 4, 5);
        });
        edge("that goes round and round", () -> {
            for (int place = 1; place <= 20; place++) x.house(0, place);
            int[] walk = {0, 2, 4, 6, 8, 10, 12, 14, 16, 18, 19, 17, 15, 13, 11, 9, 7, 5, 3, 1};
            order(0, walk);
            x.set(0, 1);
            for (int day = 0; day < 41; day++) {
                due("the next one", x.next(0, 0), walk[day % 20]);
                due("one is read", x.days(4), 1);
                due("it is that one", x.ledger(0, 1), walk[day % 20]);
            }
            due("behind a full round, and a second one", x.next(0, 19), 0);
        });
        edge("that goes round and round", () -> {
            housesAt(2, 1, 2);
            x.set(0, 1);
            x.days(2);
            order(2, 1, 0);
            due("behind place 1", x.ledger(0, 1), 0);
            x.days(4);
            order(2, 0, 1);
            due("behind place 2, the last one", x.ledger(0, 1), 1);
            x.days(4);
            due("place 1 again", x.ledger(0, 1), 0);
        });
    }

    private void whereItBegins() {
        edge("(at first with the first one)", () -> {
            housesAt(0, 20, 7, 2);
            order(0, 1, 0, 2);
            x.read(1);
            order(0, 1, 0, 2);
            x.set(0, 1);
            x.days(4);
            due("the first one", x.ledger(0, 1), 1);
        });
        edge("it begins with the house behind the one that was read the latest on such a walk in this street", () -> {
            housesAt(0, 1, 3, 5, 7);
            housesAt(1, 1, 3);
            x.set(0, 1);
            x.days(4);
            order(0, 1, 2, 3, 0);
            order(1, 5, 4);
            x.read(2);
            order(0, 1, 2, 3, 0);
            x.change(3);
            order(0, 1, 2, 3, 0);
            x.lock(1, true);
            x.days(4);
            order(0, 3, 0, 1, 2);
            order(1, 4, 5);
        });
        edge("it begins with the house behind the one that was read the latest on such a walk in this street", () -> {
            housesAt(0, 1, 3, 5, 7);
            x.set(0, 2);
            x.days(4);
            order(0, 2, 3, 0, 1);
            x.lock(3, true);
            x.lock(0, true);
            due("two are passed by on the way", x.days(4), 2);
            order(0, 2, 3, 0, 1);
            x.lock(2, true);
            x.lock(1, true);
            due("none is read", x.days(4), 0);
            order(0, 2, 3, 0, 1);
            x.undo();
            x.undo();
            x.undo();
            order(0, 2, 3, 0, 1);
        });
        edge("it begins with the house behind the one that was read the latest on such a walk in this street", () -> {
            housesAt(0, 5, 9);
            x.set(0, 1);
            x.days(4);
            order(0, 1, 0);
            housesAt(0, 7, 3);
            order(0, 2, 1, 3, 0);
            x.undo();
            x.undo();
            x.undo();
            order(0, 0, 1);
        });
    }

    private void howMany() {
        edge("The reader tries each house once at most", () -> {
            x.set(0, 12);
            due("no house", x.days(4), 0);
            housesAt(0, 4);
            due("one house", x.days(4), 1);
            housesAt(0, 20);
            due("two houses", x.days(4), 2);
            readHouses(0, 1, 0);
            order(0, 1, 0);
            housesAt(0, 1, 2, 3, 5, 6, 7, 8, 9, 10);
            due("11 houses", x.days(4), 11);
            due("each of them once", x.houseOf(3, 8), 1);
        });
        edge("until setting 0 houses are read", () -> {
            for (int place = 1; place <= 20; place++) x.house(0, place);
            for (int many = 0; many <= 12; many++) {
                x.set(0, many);
                due("setting 0 of " + many, x.days(4), many);
            }
            x.set(0, 0);
            due("99 days without readings", x.days(99), 0);
            due("readings", x.count(3), 78);
            begin();
            for (int place = 1; place <= 13; place++) x.house(0, place);
            x.set(0, 12);
            due("12 of 13", x.days(4), 12);
            due("the one that is left", x.next(0, 0), 1);
            due("again 12 of 13", x.days(4), 12);
            due("readings of the one that was left", x.houseOf(1, 8), 1);
            due("the one that is left then", x.next(0, 0), 3);
        });
    }

    private void passedBy() {
        edge("those that are not read for a reason are passed by", () -> {
            housesAt(0, 1, 3, 5, 7, 9);
            x.set(0, 2);
            x.lock(0, true);
            x.lock(2, true);
            due("they count not", x.days(4), 2);
            readHouses(3, 1);
            order(0, 4, 0, 1, 2, 3);
            for (int house = 0; house < 5; house++) x.lock(house, true);
            due("all are locked", x.days(4), 0);
            order(0, 4, 0, 1, 2, 3);
            x.lock(3, false);
            due("all but the last one", x.days(4), 1);
            order(0, 4, 0, 1, 2, 3);
            x.lock(3, true);
            x.lock(0, false);
            due("all ahead of one and behind it", x.days(4), 1);
            order(0, 1, 2, 3, 4, 0);
            due("one round further", x.days(4), 1);
            order(0, 1, 2, 3, 4, 0);
        });
        edge("those that are not read for a reason are passed by", () -> {
            housesAt(0, 1);
            x.days(3);
            x.read(0);
            due("read on the day before", x.days(1), 1);
        });
    }

    private void ends() {
        edge("Then, if now can be divided by setting 3, a year ends", () -> {
            due("in 59 days", years(59), 0);
            due("in 60 days", years(60), 1);
            due("in 119 days", years(119), 1);
            due("in 120 days", years(120), 2);
        });
        edge("Then, if now can be divided by setting 3, a year ends", () -> {
            x.set(3, 5);
            x.days(4);
            due("day 4", x.count(13), 0);
            x.days(1);
            due("day 5", x.count(13), 1);
            x.days(2);
            x.set(3, 400);
            x.set(3, 6);
            x.days(4);
            due("day 11, by 6", x.count(13), 1);
            x.days(1);
            due("day 12, by 6", x.count(13), 2);
            x.set(3, 400);
            pass(387);
            due("day 399, by 400", x.count(13), 2);
            x.days(1);
            due("day 400, by 400", x.count(13), 3);
            x.set(3, 50);
            due("set on a day that it divides", x.count(13), 3);
            x.days(50);
            due("day 450, by 50", x.count(13), 4);
        });
        edge("Then, if now can be divided by setting 3, a year ends", () -> {
            x.house(1, 1);
            x.flow(0, 10);
            x.set(3, 5);
            x.days(4);
            due("the walk of day 5 is ahead of the year's end", x.days(1), 1);
            due("refund for a balance of that walk", x.houseOf(0, 12), 1);
            due("balance", balance(0), -50);
        });
    }

    private int years(int days) {
        begin();
        pass(days);
        return x.count(13);
    }

    /** One house with a balance, and a refund from setting 2 on; one year ends. */
    private void yearEnds(int balance, int from) {
        withBalance(balance);
        x.set(2, from);
        x.set(3, 5);
        x.days(5);
        due("years", x.count(13), 1);
    }

    private void refunds() {
        edge("with a balance of at least setting 2 gets a refund", () -> {
            int[][] rows = {{0, 1, 0}, {1, 1, 1}, {1, 2, 0}, {49, 50, 0}, {50, 50, 1}, {51, 50, 1}, {97, 98, 0}, {98, 98, 1}, {98, 97, 1},
                {98, 99, 0}, {-1, 1, 0}, {-98, 1, 0}, {50, 1, 1}};
            for (int[] row : rows) {
                yearEnds(row[0], row[1]);
                due("refunds of balance " + row[0] + " from " + row[1], x.houseOf(0, 12), row[2]);
                due("balance of " + row[0] + " from " + row[1], balance(0), row[0] - 100 * row[2]);
                due("all refunds", x.count(7), row[2]);
            }
        });
        edge("its balance is 100 less", () -> {
            yearEnds(1, 1);
            due("the least balance", balance(0), -99);
            facts(0, 3, 1, 99, 0, 901, 0, 0, 1, 1, 1, 1, 0, 1, 0);
            due("a refund is no reading", x.count(14), 1);
            goOn(0, 1);
            due("rounded up then", x.read(0), 1);
            due("balance", balance(0), 0);
        });
        edge("the price of now is paid back", () -> {
            yearEnds(50, 50);
            due("for 7", x.count(8), 7);
            withBalance(50);
            x.set(1, 50);
            x.set(2, 50);
            due("nothing", x.count(8), 0);
            pass(60);
            due("for 50", x.count(8), 50);
            x.set(1, 1);
            due("it stays", x.count(8), 50);
        });
        edge("each house, by the numbers", () -> {
            fill(24);
            x.set(0, 0);
            for (int house = 0; house < 24; house++) x.flow(house, 50);
            x.days(1);
            for (int house = 0; house < 24; house++) x.read(house);
            for (int house = 0; house < 24; house++) x.flow(house, 0);
            due("houses above 0", x.count(9), 24);
            due("refunds told ahead", x.ifDays(59, 2), 24);
            x.days(59);
            due("refunds", x.count(7), 24);
            due("coins", x.count(8), 24 * 7);
            due("houses below 0", x.count(10), 24);
            for (int house = 0; house < 24; house++) due("balance", balance(house), -50);
        });
        edge("with a balance of at least setting 2 gets a refund", () -> {
            withBalance(98);
            x.set(2, 1);
            x.set(3, 5);
            due("only one at a year's end", x.ifDays(99, 2), 1);
            x.lock(0, true);
            due("also if it is locked", x.ifDays(99, 2), 1);
            x.days(99);
            due("refunds", x.count(7), 1);
            due("balance", balance(0), -2);
        });
    }

    private void days() {
        under("Promise 7: days");
        edge("`many`: 1 to 99", () -> {
            range("many", 1, 99, (x, many) -> x.days(many));
            due("now", x.count(0), 99 * 100 / 2);
        });
        edge("Returns how many meters are read in them", () -> {
            due("no house", x.days(99), 0);
            for (int house = 0; house < 24; house++) x.house(house % 4, house / 4 + 1);
            x.set(0, 12);
            due("one day", x.days(1), 6);
            due("99 days", x.days(99), 99 * 6);
            x.read(0);
            due("a reading by hand counts not", x.days(1), 6);
            x.set(0, 0);
            due("none", x.days(99), 0);
        });
        edge("INVALID_ARGUMENT if many is out of range", () -> {
            for (int many : new int[] {0, -1, 100, 101, 9999, 10000, LEAST, MOST}) due("days(" + many + ")", x.days(many), INVALID);
            due("now", x.count(0), 0);
        });
    }

    private void theLastDay() {
        edge("LIMIT_REACHED if now would be above 9999", () -> {
            pass(9900);
            due("99 days to the last day", x.days(99), 0);
            due("now", x.count(0), 9999);
            x.undo();
            due("1 day", x.days(1), 0);
            due("99 days from 9901", x.days(99), LIMIT);
            due("98 days from 9901", x.days(98), 0);
            due("now", x.count(0), 9999);
            for (int many : new int[] {1, 2, 98, 99}) due(many + " more", x.days(many), LIMIT);
            due("now", x.count(0), 9999);
        });
        edge("LIMIT_REACHED if now would be above 9999", () -> {
            pass(9997);
            due("from 9997", x.days(3), LIMIT);
            due("to 9998", x.days(1), 0);
            due("2 more", x.days(2), LIMIT);
            due("now", x.count(0), 9998);
            due("1 more", x.days(1), 0);
            due("now", x.count(0), 9999);
            due("1 more", x.days(1), LIMIT);
            due("out of range", x.days(0), INVALID);
            due("out of range", x.days(100), INVALID);
        });
        edge("LIMIT_REACHED if now would be above 9999", () -> {
            pass(9998);
            x.house(3, 1);
            x.flow(0, 50);
            x.set(3, 101);
            int years = x.count(13);
            due("a walk on the last day", x.days(1), 1);
            due("its day", x.houseOf(0, 7), 9999);
            due("a year that ends on the last day", x.count(13), years + 1);
            facts(0, 3, 1, 50, 0, 950, 50, 0, 9999, 1, 1, 1, 0, 1, 0);
            due("read on the last day", x.read(0), NOT_POSSIBLE);
            due("changed on the last day", x.change(0), 0);
            due("its day", x.ledger(0, 0), 9999);
            due("back", x.undo(), 3);
            due("back ahead of the last day", x.undo(), 2);
            due("now", x.count(0), 9998);
            due("the last day again", x.days(1), 1);
        });
    }

    private void next() {
        under("Promise 11: next");
        edge("`street`: 0 to 3", () -> range("street", 0, 3, (x, street) -> x.next(street, 0)));
        edge("`rank`: 0 for the first one, and so on", () -> {
            housesAt(3, 2, 1);
            due("rank 0", x.next(3, 0), 1);
            due("rank 1", x.next(3, 1), 0);
            due("rank 2", x.next(3, 2), NOT_FOUND);
        });
        edge("Returns a house in the order in which the next walk in a street would try them all.", () -> {
            housesAt(3, 2, 1, 3);
            x.set(0, 0);
            x.lock(1, true);
            x.read(2);
            order(3, 1, 2, 0);
        });
        edge("INVALID_ARGUMENT if street is out of range, or rank is below 0", () -> {
            x.house(0, 1);
            for (int rank : new int[] {-1, -2, LEAST}) {
                for (int street = -1; street <= 4; street++) due("next(" + street + ", " + rank + ")", x.next(street, rank), INVALID);
            }
            for (int street : new int[] {-1, 4, LEAST, MOST}) due("next(" + street + ", 99)", x.next(street, 99), INVALID);
        });
        edge("NOT_FOUND if there are not so many", () -> {
            for (int rank : new int[] {0, 1, 19, 20, MOST}) due("without houses, rank " + rank, x.next(0, rank), NOT_FOUND);
            for (int place = 1; place <= 20; place++) x.house(2, place);
            due("the last one", x.next(2, 19), 1);
            for (int rank : new int[] {20, 21, 39, 40, 256, MOST}) due("with 20 houses, rank " + rank, x.next(2, rank), NOT_FOUND);
            due("another street", x.next(1, 0), NOT_FOUND);
        });
    }
}
