/** For each promise the answers that it asks for: ordinary ones, those at its edges, and those of wrong calls. */
public final class PromiseTest {
    private static final int INVALID = -1000001;
    private static final int NOT_POSSIBLE = -1000002;
    private static final int LIMIT = -1000003;
    private static final int NOT_FOUND = -1000004;

    private static int promise;
    private static int asked;
    private static int wrong;

    private Counted x = new Counted();

    public static void main(String[] args) {
        for (promise = 1; promise <= 24; promise++) {
            int before = asked;
            new PromiseTest().run();
            if (asked == before) {
                wrong++;
                System.out.println("promise " + promise + " is not tested");
            }
        }
        System.out.println("PromiseTest: " + asked + " answers, " + wrong + " wrong");
        if (wrong != 0) System.exit(1);
    }

    private static void due(String what, int got, int want) {
        asked++;
        if (got != want) {
            wrong++;
            System.out.println("promise " + promise + ", " + what + ": answered " + got + ", due is " + want);
        }
    }

    private void run() {
        switch (promise) {
            case 1: newObject(); break;
            case 2: house(); break;
            case 3: flow(); break;
            case 4: lock(); break;
            case 5: read(); break;
            case 6: change(); break;
            case 7: days(); daysWalk(); daysYear(); break;
            case 8: set(); break;
            case 9: houseOf(); break;
            case 10: at(); break;
            case 11: next(); break;
            case 12: ledger(); break;
            case 13: why(); break;
            case 14: ifRead(); break;
            case 15: wronged(); break;
            case 16: refundIn(); break;
            case 17: ifDays(); break;
            case 18: mean(); break;
            case 19: count(); break;
            case 20: undo(); undoRestores(); break;
            case 21: type(); break;
            case 22: clearText(); break;
            case 23: fault(); faultForm(); faultError(); break;
            default: play(); break;
        }
    }

    private void begin() {
        x = new Counted();
    }

    private void text(String text) {
        x.clearText();
        for (int i = 0; i < text.length(); i++) x.type(text.charAt(i));
    }

    private void counts(String when, int[] wanted) {
        for (int what = 0; what < wanted.length; what++) due("count(" + what + ") " + when, x.count(what), wanted[what]);
    }

    private void settings(String when, int... wanted) {
        for (int what = 0; what < 4; what++) due("setting " + what + " " + when, x.count(20 + what), wanted[what]);
    }

    private void facts(int house, int... wanted) {
        for (int what = 0; what < wanted.length; what++) {
            due("houseOf(" + house + ", " + what + ")", x.houseOf(house, what), wanted[what]);
        }
    }

    private void entry(int ago, int... wanted) {
        for (int what = 0; what < wanted.length; what++) {
            due("ledger(" + ago + ", " + what + ")", x.ledger(ago, what), wanted[what]);
        }
    }

    private void faultIs(String text, int position, int reason, int cause) {
        text(text);
        due("position of " + text, x.fault(0), position);
        due("reason of " + text, x.fault(1), reason);
        due("cause of " + text, x.fault(2), cause);
        due("play of " + text, x.play(), NOT_POSSIBLE);
    }

    /** The order in which a street is walked through next. */
    private void order(int street, int... wanted) {
        for (int rank = 0; rank < wanted.length; rank++) due("next(" + street + ", " + rank + ")", x.next(street, rank), wanted[rank]);
        due("next behind the last one", x.next(street, wanted.length), NOT_FOUND);
    }

    /** A house at (3, place) that uses so many hundredths, which are not read yet; a day passes. */
    private void used(int hundredths) {
        begin();
        x.set(0, 0);
        x.house(3, 1);
        use(hundredths);
    }

    /** Hundredths of the house 0 by days on which nothing is read. */
    private void use(int hundredths) {
        x.flow(0, hundredths);
        x.days(1);
        x.flow(0, 0);
    }

    private void newObject() {
        counts("at first", new int[] {0, 0, 0, 0, 0, 0, 0, 0, 0, 0, 0, 10000, 10000, 0, 0, 0, 0});
        settings("at first", 3, 7, 50, 60);
        due("houseOf(0, 0)", x.houseOf(0, 0), INVALID);
        for (int street = 0; street < 4; street++) {
            for (int place = 1; place <= 20; place++) due("at", x.at(street, place), NOT_FOUND);
        }
        due("undo()", x.undo(), NOT_POSSIBLE);
        due("fault(0)", x.fault(0), NOT_FOUND);
        Counted other = new Counted();
        x.house(0, 1);
        due("another object", other.count(1), 0);
    }

    private void house() {
        due("first", x.house(0, 1), 0);
        due("second", x.house(3, 20), 1);
        due("same place, other street", x.house(1, 20), 2);
        due("taken", x.house(3, 20), NOT_POSSIBLE);
        due("street -1", x.house(-1, 1), INVALID);
        due("street 4", x.house(4, 1), INVALID);
        due("place 0", x.house(0, 0), INVALID);
        due("place 21", x.house(0, 21), INVALID);
        due("least int", x.house(Integer.MIN_VALUE, Integer.MIN_VALUE), INVALID);
        due("greatest int", x.house(0, Integer.MAX_VALUE), INVALID);
        due("errors are no changes", x.count(15), 3);
        for (int place = 2; place <= 20; place++) due("place " + place, x.house(0, place), place + 1);
        due("23rd", x.house(2, 7), 22);
        due("24th", x.house(2, 8), 23);
        due("25th", x.house(2, 9), LIMIT);
        due("25th at a taken place", x.house(2, 8), NOT_POSSIBLE);
        due("25th out of range", x.house(2, 21), INVALID);
        due("houses", x.count(1), 24);
        x.undo();
        due("24th after undo", x.house(2, 9), 23);
        facts(23, 2, 9, 0, 0, 1000, 0, 0, NOT_FOUND, 0, 0, 0, 0, 0, 0);
    }

    private void flow() {
        due("no house", x.flow(0, 0), INVALID);
        x.house(0, 1);
        due("was 0", x.flow(0, 999), 0);
        due("was 999", x.flow(0, 0), 999);
        due("1000", x.flow(0, 1000), INVALID);
        due("-1", x.flow(0, -1), INVALID);
        due("house -1", x.flow(-1, 5), INVALID);
        due("house 1", x.flow(1, 5), INVALID);
        due("was 0 still", x.flow(0, 5), 0);
        due("states", x.count(15), 4);
        x.days(1);
        due("dial", x.houseOf(0, 2), 5);
        due("flow", x.houseOf(0, 5), 5);
    }

    private void lock() {
        due("no house", x.lock(0, true), INVALID);
        x.house(0, 1);
        due("was open", x.lock(0, false), 0);
        due("was open still", x.lock(0, true), 0);
        due("was locked", x.lock(0, true), 1);
        due("states", x.count(15), 4);
        due("locked", x.houseOf(0, 6), 1);
        due("was locked still", x.lock(0, false), 1);
        due("open", x.houseOf(0, 6), 0);
        due("house -1", x.lock(-1, true), INVALID);
        due("house 1", x.lock(1, false), INVALID);
    }

    private void read() {
        due("no house", x.read(0), INVALID);
        int[][] atZero = {{0, 0, 1000}, {1, 0, 999}, {49, 0, 951}, {50, 1, 1050}, {51, 1, 1049}, {99, 1, 1001},
            {100, 1, 1000}, {149, 1, 951}, {150, 2, 1050}, {999, 10, 1001}};
        for (int[] row : atZero) {
            used(row[0]);
            due("read of " + row[0] + " at 0", x.read(0), row[1]);
            due("balance behind " + row[0], x.houseOf(0, 4), row[2]);
        }
        int[][] above = {{0, 0, 1050}, {1, 0, 1049}, {49, 0, 1001}, {50, 0, 1000}, {51, 0, 999}, {99, 0, 951}, {100, 1, 1050}, {199, 1, 951}};
        for (int[] row : above) {
            used(50);
            x.read(0);
            use(row[0]);
            due("read of " + row[0] + " at 50", x.read(0), row[1]);
            due("balance behind " + row[0] + " at 50", x.houseOf(0, 4), row[2]);
        }
        int[][] below = {{0, 0, 960}, {1, 1, 1059}, {60, 1, 1000}, {99, 1, 961}, {100, 1, 960}, {101, 2, 1059}, {199, 2, 961}};
        for (int[] row : below) {
            used(40);
            x.read(0);
            use(row[0]);
            due("read of " + row[0] + " at -40", x.read(0), row[1]);
            due("balance behind " + row[0] + " at -40", x.houseOf(0, 4), row[2]);
        }
        due("again", x.read(0), NOT_POSSIBLE);
        readAtOne();
        x.days(1);
        x.lock(0, true);
        due("locked", x.read(0), NOT_POSSIBLE);
        x.lock(0, false);
        int states = x.count(15);
        due("open", x.read(0), 0);
        due("states", x.count(15), states);
        due("house 1", x.read(1), INVALID);
        due("house -1", x.read(-1), INVALID);
    }

    /** The smallest balances that tell that somebody was wronged. */
    private void readAtOne() {
        used(99);
        x.read(0);
        use(60);
        due("read of 60 at 1", x.read(0), 0);
        due("balance behind 60 at 1", x.houseOf(0, 4), 941);
        facts(0, 3, 1, 159, 0, 941, 0, 0, 2, 2, 1, 1, 1, 0, 0);
        used(1);
        x.read(0);
        use(40);
        due("read of 40 at -1", x.read(0), 1);
        facts(0, 3, 1, 41, 0, 1059, 0, 0, 2, 2, 1, 1, 1, 0, 0);
    }

    private void change() {
        due("no house", x.change(0), INVALID);
        used(150);
        x.lock(0, true);
        due("of a locked one", x.change(0), 2);
        facts(0, 3, 1, 0, 0, 1050, 0, 1, 1, 1, 2, 1, 0, 0, 1);
        entry(0, 1, 0, 150, 2, 1, 1050);
        due("again, on this day", x.change(0), 0);
        facts(0, 3, 1, 0, 0, 1050, 0, 1, 1, 2, 2, 2, 0, 0, 2);
        x.lock(0, false);
        due("a reading of this day", x.why(0), 2);
        due("so not read", x.read(0), NOT_POSSIBLE);
        use(130);
        due("the dial from 0", x.houseOf(0, 2), 130);
        due("used since it came", x.houseOf(0, 3), 130);
        due("read and changed", x.read(0), 1);
        due("read and changed", x.change(0), 0);
        due("house 1", x.change(1), INVALID);
        due("house -1", x.change(-1), INVALID);
        due("states", x.count(15), 4);
        x.undo();
        due("the dial before", x.houseOf(0, 2), 130);
        due("flow stays", x.flow(0, 7), 0);
        x.change(0);
        due("flow stays", x.houseOf(0, 5), 7);
        begin();
        x.house(1, 1);
        x.house(1, 3);
        x.days(4);
        x.change(1);
        order(1, 0, 1);
    }

    private void days() {
        due("0", x.days(0), INVALID);
        due("100", x.days(100), INVALID);
        due("-1", x.days(-1), INVALID);
        due("greatest int", x.days(Integer.MAX_VALUE), INVALID);
        due("no changes", x.count(15), 0);
        due("1", x.days(1), 0);
        due("now", x.count(0), 1);
        due("99", x.days(99), 0);
        due("now", x.count(0), 100);
        x.house(2, 3);
        x.flow(0, 999);
        x.lock(0, true);
        due("none is read", x.days(99), 0);
        due("used", x.houseOf(0, 3), 98901);
        x.days(1);
        x.flow(0, 99);
        x.days(1);
        due("dial", x.houseOf(0, 2), 99999);
        x.flow(0, 1);
        x.days(1);
        due("dial gone round", x.houseOf(0, 2), 0);
        due("used, by the dial alone", x.houseOf(0, 3), 0);
        goneRound();
        x.days(99);
        x.days(99);
        x.lock(0, false);
        x.flow(0, 10);
        due("read once in 4 days", x.days(8), 2);
        while (x.count(0) <= 9999 - 99) x.days(99);
        int left = 9999 - x.count(0);
        due("beyond the limit", x.days(left + 1), LIMIT);
        due("beyond the limit, out of range", x.days(100), INVALID);
        x.days(left);
        due("now", x.count(0), 9999);
        due("1 more", x.days(1), LIMIT);
        due("0 more", x.days(0), INVALID);
    }

    /** A dial that goes round between two readings. */
    private void goneRound() {
        begin();
        x.set(0, 0);
        x.house(2, 3);
        x.flow(0, 999);
        x.days(99);
        due("read ahead of the round", x.read(0), 989);
        x.days(2);
        due("dial behind the round", x.houseOf(0, 2), 899);
        due("used over the round", x.houseOf(0, 3), 1998);
        due("read over the round", x.read(0), 20);
        x.days(99);
        due("nearly once round", x.houseOf(0, 3), 98901);
        x.flow(0, 550);
        x.days(1);
        due("nearly once round", x.houseOf(0, 3), 99451);
        x.days(1);
        due("once round and on", x.houseOf(0, 3), 1);
        due("dial on", x.houseOf(0, 2), 900);
        x.set(0, 3);
    }

    private void daysWalk() {
        begin();
        int[] places = {20, 1, 2, 19, 7};
        for (int place : places) x.house(1, place);
        x.house(2, 5);
        x.set(0, 2);
        order(1, 1, 4, 3, 0, 2);
        due("first walk", x.days(1), 2);
        order(1, 3, 0, 2, 1, 4);
        entry(0, 1, 4);
        entry(1, 1, 1);
        due("other street", x.days(3), 1);
        due("second walk", x.days(1), 2);
        order(1, 2, 1, 4, 3, 0);
        x.lock(2, true);
        x.lock(1, true);
        due("locked ones are passed by", x.days(4), 3);
        order(1, 0, 2, 1, 4, 3);
        entry(0, 9, 3);
        entry(1, 9, 4);
        x.set(0, 0);
        due("no houses a day", x.days(4), 0);
        order(1, 0, 2, 1, 4, 3);
        x.set(0, 12);
        due("each once at most", x.days(4), 4);
        order(1, 0, 2, 1, 4, 3);
        x.read(2);
        order(1, 0, 2, 1, 4, 3);
        x.house(1, 18);
        order(1, 0, 6, 2, 1, 4, 3);
        for (int house = 0; house <= 6; house++) x.lock(house, true);
        due("all are locked", x.days(4), 0);
        order(1, 0, 6, 2, 1, 4, 3);
        begin();
        x.set(0, 12);
        for (int place = 1; place <= 20; place++) x.house(0, place);
        due("12 of 20", x.days(4), 12);
        entry(0, 4, 17);
        due("12 more of 20", x.days(4), 12);
        entry(0, 8, 6);
    }

    private void daysYear() {
        used(50);
        x.read(0);
        x.set(3, 5);
        x.days(3);
        due("before the year's end", x.count(13), 0);
        x.days(1);
        due("at its end", x.count(13), 1);
        due("refunds", x.count(7), 1);
        due("paid back", x.count(8), 7);
        facts(0, 3, 1, 50, 0, 950, 0, 0, 1, 1, 1, 1, 0, 1, 0);
        x.days(5);
        due("none with less", x.count(7), 1);
        due("years", x.count(13), 2);
        used(50);
        x.read(0);
        x.set(2, 51);
        x.set(3, 5);
        x.days(5);
        due("51 is asked", x.count(7), 0);
        x.set(2, 50);
        x.set(1, 11);
        x.lock(0, true);
        x.days(5);
        due("50 is asked, also of a locked one", x.count(7), 1);
        due("by the price of now", x.count(8), 11);
        begin();
        x.house(1, 1);
        x.flow(0, 10);
        x.set(3, 5);
        x.days(4);
        due("read on the year's last day, ahead of its end", x.days(1), 1);
        due("refund by that reading", x.houseOf(0, 12), 1);
        due("balance", x.houseOf(0, 4), 950);
    }

    private void set() {
        int[][] ranges = {{0, 12, 3}, {1, 50, 7}, {1, 99, 50}, {5, 400, 60}};
        for (int what = 0; what < 4; what++) {
            int[] range = ranges[what];
            due("below " + what, x.set(what, range[0] - 1), INVALID);
            due("above " + what, x.set(what, range[1] + 1), INVALID);
            due("least of " + what, x.set(what, range[0]), range[2]);
            due("greatest of " + what, x.set(what, range[1]), range[0]);
            due("setting " + what, x.count(20 + what), range[1]);
        }
        due("states", x.count(15), 4);
        due("what -1", x.set(-1, 5), INVALID);
        due("what 4", x.set(4, 5), INVALID);
        settings("then", 12, 50, 99, 400);
        due("the same", x.set(0, 12), 12);
    }

    private void houseOf() {
        due("no house", x.houseOf(0, 0), INVALID);
        x.house(2, 9);
        facts(0, 2, 9, 0, 0, 1000, 0, 0, NOT_FOUND, 0, 0, 0, 0, 0, 0);
        due("what -1", x.houseOf(0, -1), INVALID);
        due("what 14", x.houseOf(0, 14), INVALID);
        due("house -1", x.houseOf(-1, 0), INVALID);
        due("house 1", x.houseOf(1, 7), INVALID);
        x.read(0);
        facts(0, 2, 9, 0, 0, 1000, 0, 0, 0, 1, 0, 0, 0, 0, 0);
        x.flow(0, 45);
        x.days(2);
        facts(0, 2, 9, 90, 0, 1010, 45, 0, 2, 2, 1, 1, 0, 0, 0);
        x.days(3);
        facts(0, 2, 9, 225, 135, 1010, 45, 0, 2, 2, 1, 1, 0, 0, 0);
        x.read(0);
        facts(0, 2, 9, 225, 0, 975, 45, 0, 5, 3, 2, 1, 1, 0, 0);
        x.set(3, 5);
        x.set(2, 1);
        x.days(5);
        facts(0, 2, 9, 450, 0, 950, 45, 0, 10, 5, 4, 2, 2, 0, 0);
        x.lock(0, true);
        x.change(0);
        facts(0, 2, 9, 0, 0, 950, 45, 1, 10, 6, 4, 2, 3, 0, 1);
    }

    private void at() {
        x.house(0, 1);
        x.house(3, 20);
        due("first", x.at(0, 1), 0);
        due("second", x.at(3, 20), 1);
        due("none", x.at(3, 1), NOT_FOUND);
        due("none", x.at(0, 20), NOT_FOUND);
        due("street -1", x.at(-1, 1), INVALID);
        due("street 4", x.at(4, 1), INVALID);
        due("place 0", x.at(0, 0), INVALID);
        due("place 21", x.at(0, 21), INVALID);
        due("place -1", x.at(0, -1), INVALID);
        begin();
        for (int place = 1; place <= 20; place++) x.house(2, place);
        for (int place = 1; place <= 20; place++) due("place " + place, x.at(2, place), place - 1);
    }

    private void next() {
        due("none", x.next(0, 0), NOT_FOUND);
        due("street -1", x.next(-1, 0), INVALID);
        due("street 4", x.next(4, 0), INVALID);
        due("rank -1", x.next(0, -1), INVALID);
        due("greatest rank", x.next(0, Integer.MAX_VALUE), NOT_FOUND);
        for (int place = 1; place <= 20; place++) x.house(0, place);
        order(0, 0, 2, 4, 6, 8, 10, 12, 14, 16, 18, 19, 17, 15, 13, 11, 9, 7, 5, 3, 1);
        x.lock(0, true);
        order(0, 0, 2, 4, 6, 8, 10, 12, 14, 16, 18, 19, 17, 15, 13, 11, 9, 7, 5, 3, 1);
        x.days(4);
        order(0, 8, 10, 12, 14, 16, 18, 19, 17, 15, 13, 11, 9, 7, 5, 3, 1, 0, 2, 4, 6);
        x.read(8);
        due("read by hand", x.next(0, 0), 8);
        x.house(3, 4);
        x.house(3, 3);
        order(3, 21, 20);
    }

    private void ledger() {
        due("none", x.ledger(0, 0), NOT_FOUND);
        due("ago -1", x.ledger(-1, 0), INVALID);
        due("what -1", x.ledger(0, -1), INVALID);
        due("what 6", x.ledger(0, 6), INVALID);
        used(150);
        x.read(0);
        entry(0, 1, 0, 150, 2, 1, 1050);
        due("only one", x.ledger(1, 0), NOT_FOUND);
        due("ago -1", x.ledger(-1, 0), INVALID);
        use(160);
        x.read(0);
        entry(0, 2, 0, 160, 1, 0, 990);
        entry(1, 1, 0, 150, 2, 1, 1050);
        use(200);
        x.read(0);
        entry(0, 3, 0, 200, 2, 2, 990);
        due("what 6", x.ledger(0, 6), INVALID);
        for (int i = 4; i <= 11; i++) {
            due("kept", x.count(14), Math.min(10, i - 1));
            use(100 * (i % 5));
            x.read(0);
            entry(0, i, 0, 100 * (i % 5), i % 5, 2, 990);
        }
        due("kept", x.count(14), 10);
        entry(9, 2, 0, 160, 1, 0, 990);
        due("the eleventh", x.ledger(10, 0), NOT_FOUND);
        due("far ago", x.ledger(Integer.MAX_VALUE, 5), NOT_FOUND);
        due("far ago, out of range", x.ledger(Integer.MAX_VALUE, 6), INVALID);
        x.undo();
        entry(9, 1, 0, 150, 2, 1, 1050);
        x.house(3, 2);
        x.change(1);
        entry(0, 11, 1, 0, 0, 2, 1000);
    }

    private void why() {
        due("no house", x.why(0), INVALID);
        x.house(1, 1);
        due("never read", x.why(0), 0);
        x.read(0);
        due("read on this day", x.why(0), 2);
        x.lock(0, true);
        due("locked first of all", x.why(0), 1);
        x.days(1);
        due("locked", x.why(0), 1);
        x.lock(0, false);
        due("no reason", x.why(0), 0);
        x.days(4);
        due("read on a walk", x.why(0), 2);
        x.days(1);
        due("a day later", x.why(0), 0);
        due("house 1", x.why(1), INVALID);
        due("house -1", x.why(-1), INVALID);
    }

    private void ifReadIs(int house, int... wanted) {
        for (int what = 0; what < wanted.length; what++) {
            due("ifRead(" + house + ", " + what + ")", x.ifRead(house, what), wanted[what]);
        }
    }

    private void ifRead() {
        due("no house", x.ifRead(0, 0), INVALID);
        used(150);
        ifReadIs(0, 2, 1050, 1, 14);
        x.set(1, 50);
        x.lock(0, true);
        ifReadIs(0, 2, 1050, 1, 100);
        due("not read", x.houseOf(0, 8), 0);
        x.change(0);
        ifReadIs(0, 0, 1050, 1, 0);
        use(160);
        ifReadIs(0, 1, 990, 2, 50);
        due("locked, not read", x.ledger(0, 2), 150);
        x.lock(0, false);
        x.read(0);
        ifReadIs(0, 0, 990, 2, 0);
        use(190);
        ifReadIs(0, 2, 1000, 0, 100);
        due("what -1", x.ifRead(0, -1), INVALID);
        due("what 4", x.ifRead(0, 4), INVALID);
        due("house -1", x.ifRead(-1, 0), INVALID);
        due("house 1", x.ifRead(1, 0), INVALID);
    }

    private void wronged() {
        due("none", x.wronged(0), NOT_FOUND);
        due("rank -1", x.wronged(-1), INVALID);
        x.set(0, 0);
        int[] flows = {0, 60, 40, 60, 0, 90, 10};
        for (int i = 0; i < flows.length; i++) {
            x.house(0, i + 1);
            x.flow(i, flows[i]);
        }
        x.days(1);
        for (int i = 0; i < flows.length; i++) due("before", x.wronged(i), i);
        for (int i = 0; i < flows.length; i++) x.read(i);
        int[] order = {1, 3, 5, 0, 4, 6, 2};
        for (int i = 0; i < order.length; i++) due("rank " + i, x.wronged(i), order[i]);
        due("rank 7", x.wronged(7), NOT_FOUND);
        due("greatest rank", x.wronged(Integer.MAX_VALUE), NOT_FOUND);
        due("least rank", x.wronged(Integer.MIN_VALUE), INVALID);
    }

    private void refundIn() {
        due("no house", x.refundIn(0), INVALID);
        x.house(3, 1);
        due("balance 0", x.refundIn(0), NOT_FOUND);
        used(50);
        x.read(0);
        due("at the year's end", x.refundIn(0), 59);
        x.lock(0, true);
        due("also if locked", x.refundIn(0), 59);
        x.set(2, 51);
        due("balance too small", x.refundIn(0), NOT_FOUND);
        x.set(2, 50);
        x.set(3, 400);
        due("a long year", x.refundIn(0), 399);
        due("now stays", x.count(0), 1);
        x.days(58);
        due("states", x.count(15), 4);
        x.set(3, 60);
        due("tomorrow", x.refundIn(0), 1);
        x.days(1);
        due("the next one", x.refundIn(0), NOT_FOUND);
        due("house -1", x.refundIn(-1), INVALID);
        due("house 1", x.refundIn(1), INVALID);
        begin();
        x.house(0, 1);
        x.flow(0, 1);
        x.set(2, 92);
        x.set(3, 204);
        x.days(7);
        due("in 401 days", x.refundIn(0), NOT_FOUND);
        x.days(1);
        due("in 400 days", x.refundIn(0), 400);
        x.house(1, 1);
        due("another house", x.refundIn(1), NOT_FOUND);
        refundBehindTheLastDay();
    }

    private void refundBehindTheLastDay() {
        begin();
        x.set(0, 0);
        x.house(3, 1);
        for (int i = 0; i < 100; i++) x.days(99);
        x.days(98);
        use(50);
        x.read(0);
        due("the last day", x.count(0), 9999);
        x.set(3, 400);
        due("behind the last day", x.refundIn(0), 1);
    }

    private void ifDaysIs(int many, int... wanted) {
        for (int what = 0; what < 3; what++) due("ifDays(" + many + ", " + what + ")", x.ifDays(many, what), wanted[what]);
    }

    private void ifDays() {
        ifDaysIs(99, 0, 0, 0);
        x.house(0, 1);
        x.house(0, 2);
        x.house(1, 1);
        x.flow(0, 15);
        x.flow(1, 90);
        x.flow(2, 100);
        ifDaysIs(1, 1, 1, 0);
        ifDaysIs(3, 1, 1, 0);
        ifDaysIs(4, 3, 6, 0);
        x.set(3, 5);
        x.set(2, 40);
        ifDaysIs(4, 3, 6, 0);
        ifDaysIs(5, 4, 10, 2);
        due("now stays", x.count(0), 0);
        due("readings stay", x.count(3), 0);
        due("states", x.count(15), 4);
        int read = x.ifDays(40, 0);
        int units = x.ifDays(40, 1);
        int refunds = x.ifDays(40, 2);
        x.days(9);
        int[] before = {x.count(3), x.count(4), x.count(7)};
        ifDaysIs(31, read - before[0], units - before[1], refunds - before[2]);
        due("done", x.days(31), read - before[0]);
        due("units", x.count(4), units);
        due("refunds", x.count(7), refunds);
        due("0", x.ifDays(0, 0), INVALID);
        due("100", x.ifDays(100, 0), INVALID);
        due("what -1", x.ifDays(1, -1), INVALID);
        due("what 3", x.ifDays(1, 3), INVALID);
        while (x.count(0) <= 9900) x.days(99);
        int left = 9999 - x.count(0);
        if (left > 0) x.days(left);
        x.flow(0, 0);
        x.flow(1, 0);
        due("behind the last day", x.ifDays(1, 0), 2);
    }

    private void meanIs(float wanted) {
        due("mean " + wanted, x.mean(), Float.floatToIntBits(wanted));
    }

    private void mean() {
        due("no houses", x.mean(), NOT_FOUND);
        used(0);
        meanIs(0f);
        use(60);
        x.read(0);
        meanIs(40f);
        x.house(0, 1);
        meanIs(20f);
        x.house(0, 2);
        meanIs(40f / 3f);
        x.flow(1, 49);
        x.days(1);
        x.read(1);
        meanIs(89f / 3f);
        for (int place = 3; place <= 20; place++) {
            x.house(0, place);
            meanIs(89f / (float) (place + 1));
        }
        begin();
        x.set(0, 0);
        for (int house = 0; house < 24; house++) x.house(house / 20, house % 20 + 1);
        x.flow(23, 1);
        x.days(1);
        x.read(23);
        meanIs(1f / 24f);
        for (int house = 0; house < 23; house++) x.flow(house, 48 + house % 5);
        x.days(1);
        int sum = 1;
        for (int house = 0; house < 23; house++) {
            x.read(house);
            sum += Math.abs(x.houseOf(house, 4) - 1000);
            meanIs((float) sum / 24f);
        }
    }

    private void count() {
        x.set(2, 1);
        x.set(3, 5);
        x.house(1, 1);
        x.house(1, 2);
        x.house(2, 5);
        x.house(3, 5);
        x.flow(0, 60);
        x.flow(1, 30);
        x.flow(2, 245);
        x.lock(3, true);
        x.type('d');
        counts("with houses", new int[] {0, 4, 1, 0, 0, 0, 0, 0, 0, 0, 0, 10000, 10000, 0, 0, 4, 1});
        x.days(4);
        counts("with readings", new int[] {4, 4, 1, 3, 6, 42, 580, 0, 0, 2, 1, 10020, 10020, 0, 3, 4, 1});
        x.set(1, 10);
        x.days(1);
        counts("with a year", new int[] {5, 4, 1, 5, 10, 82, 940, 2, 20, 0, 2, 9860, 9860, 1, 5, 4, 1});
        x.days(16);
        counts("later", new int[] {21, 4, 1, 17, 69, 672, 6300, 5, 50, 2, 1, 10100, 10100, 4, 10, 4, 1});
        settings("then", 3, 10, 1, 5);
        x.lock(0, true);
        due("two locked", x.count(2), 2);
        used(99);
        x.house(0, 1);
        x.flow(1, 1);
        x.days(1);
        x.read(0);
        x.read(1);
        due("a balance of 1", x.count(9), 1);
        due("a balance of -1", x.count(10), 1);
        due("balances", x.count(11), 10000);
        countFull();
        for (int what : new int[] {-1, 17, 18, 19, 24, Integer.MIN_VALUE, Integer.MAX_VALUE}) due("count " + what, x.count(what), INVALID);
    }

    /** All houses that there can be. */
    private void countFull() {
        begin();
        x.set(0, 0);
        x.set(3, 5);
        for (int house = 0; house < 24; house++) {
            x.house(house / 20, house % 20 + 1);
            x.flow(house, 10 + house);
            x.lock(house, house % 2 == 0);
        }
        x.days(4);
        for (int house = 0; house < 24; house++) x.change(house);
        int[] full = {4, 24, 12, 24, 21, 147, 2064, 0, 0, 12, 11, 10036, 10036, 0, 10, 4, 0};
        counts("with 24 houses", full);
        due("the least wronged", x.wronged(23), 2);
        due("more houses", x.wronged(24), NOT_FOUND);
        x.set(2, 48);
        due("refund tomorrow", x.refundIn(3), 1);
        x.days(1);
        due("a refund for a balance of 48", x.count(7), 1);
    }

    private void undo() {
        due("none", x.undo(), NOT_POSSIBLE);
        x.house(0, 1);
        due("1 state", x.count(15), 1);
        due("back", x.undo(), 0);
        due("none left", x.undo(), NOT_POSSIBLE);
        due("no house", x.count(1), 0);
        for (int place = 1; place <= 6; place++) x.house(0, place);
        due("4 states", x.count(15), 4);
        due("first back", x.undo(), 3);
        due("houses", x.count(1), 5);
        x.flow(0, 5);
        due("4 states", x.count(15), 4);
        x.house(0, 0);
        x.flow(0, 1000);
        x.lock(9, true);
        x.read(9);
        x.change(9);
        x.days(0);
        x.set(9, 9);
        x.house(0, 1);
        due("errors drop no state", x.undo(), 3);
        due("flow back", x.houseOf(0, 5), 0);
        due("second back", x.undo(), 2);
        due("third back", x.undo(), 1);
        due("last back", x.undo(), 0);
        due("houses", x.count(1), 2);
        due("no more", x.undo(), NOT_POSSIBLE);
        due("houses", x.count(1), 2);
    }

    /** That all else comes back too is tested by RefusalEdges. */
    private void undoRestores() {
        begin();
        x.read(x.house(0, 20));
        x.undo();
        due("no entry", x.count(14), 0);
        due("no entry", x.ledger(0, 0), NOT_FOUND);
        text("d1");
        x.undo();
        due("the text stays", x.count(16), 2);
    }

    private void type() {
        due("31", x.type(31), INVALID);
        due("127", x.type(127), INVALID);
        due("least int", x.type(Integer.MIN_VALUE), INVALID);
        due("32", x.type(32), 1);
        due("126", x.type(126), 2);
        due("no change", x.count(15), 0);
        for (int length = 3; length <= 60; length++) due("length", x.type('d'), length);
        due("61st", x.type('d'), LIMIT);
        due("61st out of range", x.type(31), INVALID);
        due("length", x.count(16), 60);
    }

    private void clearText() {
        due("empty", x.clearText(), 0);
        x.type('d');
        x.type('x');
        due("of 2", x.clearText(), 2);
        due("empty then", x.clearText(), 0);
        due("length", x.count(16), 0);
        due("no fault", x.fault(0), NOT_FOUND);
        for (int i = 0; i < 60; i++) x.type('d');
        due("of 60", x.clearText(), 60);
        due("typed again", x.type('d'), 1);
        due("no change", x.count(15), 0);
    }

    private void fault() {
        due("what -1", x.fault(-1), INVALID);
        due("what 3", x.fault(3), INVALID);
        for (int what = 0; what < 3; what++) due("empty", x.fault(what), NOT_FOUND);
        text("h0,1;h003,020;f0,999;f01,000;l0;l000;r1;c1;d099;");
        for (int what = 0; what < 3; what++) due("no fault", x.fault(what), NOT_FOUND);
        due("nothing is done", x.count(1), 0);
        due("no change", x.count(15), 0);
        due("the text stays", x.count(16), 48);
    }

    private void faultForm() {
        String[] broken = {"x", " d1;", "D1;", ";", "1", "h;", "h,1;", "h0;", "h0,;", "h0,x;", "h0,1", "h0,1,", "h0000,1;", "h0,0001;",
            "h", "h0", "h0,", "f0", "f0,", "f0,1", "f0 ,1;", "f0,1000;", "f0,1 ;", "l", "l;", "l0", "l0,", "l0000;", "r", "r0", "rx", "c", "c0", "c-1;",
            "d", "d1", "d1,1;", "d1000;", "d;", "~"};
        int[] breaks = {0, 0, 0, 0, 0, 1, 1, 2, 3, 3, 4, 4, 4, 6,
            1, 2, 3, 2, 3, 4, 2, 6, 4, 1, 1, 2, 2, 4, 1, 2, 1, 1, 2, 1,
            1, 2, 2, 4, 1, 0};
        due("as many", breaks.length, broken.length);
        for (int i = 0; i < broken.length; i++) {
            begin();
            x.house(0, 1);
            faultIs(broken[i], 0, 1, breaks[i]);
            faultIs("d1;l0;" + broken[i], 6, 1, breaks[i]);
            due("played none of them", x.count(0), 0);
        }
        faultIs("d1;;", 3, 1, 0);
        faultIs("d1;d", 3, 1, 1);
        due("played none of them", x.count(0), 0);
    }

    private void faultError() {
        begin();
        faultIs("h4,1;", 0, 2, INVALID);
        faultIs("h0,0;", 0, 2, INVALID);
        faultIs("h0,21;", 0, 2, INVALID);
        faultIs("h0,1;h0,1;x", 5, 2, NOT_POSSIBLE);
        faultIs("h0,1;f1,1;", 5, 2, INVALID);
        faultIs("h0,1;l1;", 5, 2, INVALID);
        faultIs("h0,1;r1;", 5, 2, INVALID);
        faultIs("h0,1;c1;", 5, 2, INVALID);
        faultIs("d0;", 0, 2, INVALID);
        faultIs("d100;", 0, 2, INVALID);
        faultIs("h0,1;r0;r0;", 8, 2, NOT_POSSIBLE);
        faultIs("h0,1;r0;d1;r0;c0;r0;", 17, 2, NOT_POSSIBLE);
        faultIs("h0,1;d4;r0;", 8, 2, NOT_POSSIBLE);
        faultIs("h0,1;l0;d4;l0;r0;l0;d1;r0;", 23, 2, NOT_POSSIBLE);
        faultIs("h0,1;l0;d4;r0", 11, 1, 2);
        faultIs("h0,1;l0;d4;r0;", 11, 2, NOT_POSSIBLE);
        for (int i = 0; i < 23; i++) x.house(i / 20, i % 20 + 1);
        faultIs("h3,1;h3,2;", 5, 2, LIMIT);
        faultIs("h3,1;h3,1;", 5, 2, NOT_POSSIBLE);
        faultIs("h3,1;h3,21;", 5, 2, INVALID);
        for (int i = 0; i < 100; i++) x.days(99);
        text("d99;");
        due("the last day", x.fault(0), NOT_FOUND);
        faultIs("d99;d1;", 4, 2, LIMIT);
        faultIs("d1;d99;", 3, 2, LIMIT);
        faultIs("d99;d0;", 4, 2, INVALID);
    }

    private void play() {
        due("of no text", x.play(), 0);
        due("a change", x.count(15), 1);
        text("h1,3;f0,95;d8;r0;l0;d4;c0;h2,2;");
        due("orders", x.play(), 8);
        due("one change", x.count(15), 2);
        due("the text stays", x.count(16), 31);
        facts(0, 1, 3, 0, 0, 960, 95, 1, 12, 4, 11, 1, 3, 0, 1);
        due("again", x.play(), NOT_POSSIBLE);
        due("no change", x.count(15), 2);
        due("now", x.count(0), 12);
        text("l0;l0;l0;");
        due("locks", x.play(), 3);
        due("open", x.houseOf(0, 6), 0);
        text("d1;d1;h0,0;");
        due("a fault", x.play(), NOT_POSSIBLE);
        due("nothing is done", x.count(0), 12);
        x.undo();
        due("undone", x.undo(), 1);
        due("all of it", x.count(1), 0);
        due("day", x.count(0), 0);
        StringBuilder days = new StringBuilder();
        for (int i = 0; i < 20; i++) days.append("d9;");
        text(days.toString());
        due("60 characters", x.play(), 20);
        due("now", x.count(0), 180);
        due("played twice", x.play(), 20);
        due("now", x.count(0), 360);
    }
}
