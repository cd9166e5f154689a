import java.util.Arrays;

/** What the tests of boundary cases share. Each test is told with the sentence of the document that it is for. */
abstract class Edges {
    static final int INVALID = -1000001;
    static final int NOT_POSSIBLE = -1000002;
    static final int LIMIT = -1000003;
    static final int NOT_FOUND = -1000004;

    static final int LEAST = Integer.MIN_VALUE;
    static final int MOST = Integer.MAX_VALUE;

    static final Document DOCUMENT = new Document();
    static int tests;
    static int asked;
    static int wrong;

    /** A call of one argument on an object. */
    interface Call {
        int of(Counted x, int argument);
    }

    private String heading = "";
    private String sentence = "";

    /** A new object for each test. */
    Counted x = new Counted();

    /** Runs the tests of this part. */
    abstract void run();

    void under(String heading) {
        this.heading = heading;
    }

    void edge(String sentence, Runnable test) {
        this.sentence = sentence;
        tests++;
        if (!DOCUMENT.mark(heading, sentence)) tell("this stands not once in the document");
        begin();
        int before = asked;
        try {
            test.run();
        } catch (RuntimeException e) {
            tell("threw " + e + " at " + e.getStackTrace()[0]);
        }
        if (asked == before) tell("nothing is asked");
    }

    private void tell(String what) {
        wrong++;
        System.out.println(heading + ", \"" + sentence + "\": " + what);
    }

    void begin() {
        x = new Counted();
    }

    void due(String what, int got, int want) {
        asked++;
        if (got != want) tell(what + " answered " + got + ", due is " + want);
    }

    void notInvalid(String what, int got) {
        asked++;
        if (got == INVALID) tell(what + " answered INVALID_ARGUMENT");
    }

    void alike(String what, int[] got, int[] want) {
        asked++;
        if (!Arrays.equals(got, want)) tell(what + " answered " + Arrays.toString(got) + ", due is " + Arrays.toString(want));
    }

    // ---- arguments

    /** That a call takes an argument from least to most, and none below or above. */
    void range(String what, int least, int most, Call call) {
        int[] outside = {least - 1, least - 2, LEAST, LEAST + 1, most + 1, most + 2, most + 256, most + 65536, MOST - 1, MOST, -most - 1};
        for (int argument : outside) due(what + " " + argument, call.of(x, argument), INVALID);
        for (int argument = least; argument <= most; argument++) notInvalid(what + " " + argument, call.of(x, argument));
    }

    /** That a call takes the numbers of the houses that there are: none, one, 24, and 23 again. */
    void houseNumbers(Call call) {
        begin();
        for (int house : new int[] {-1, 0, 1, 23, LEAST, MOST}) due("without houses, house " + house, call.of(x, house), INVALID);
        x.house(0, 1);
        for (int house : new int[] {-1, 1, 2, 24, LEAST, MOST}) due("with one house, house " + house, call.of(x, house), INVALID);
        notInvalid("with one house, house 0", call.of(x, 0));
        begin();
        fill(24);
        for (int house : new int[] {-1, 24, 25, LEAST, MOST}) due("with 24 houses, house " + house, call.of(x, house), INVALID);
        x.undo();
        due("house 23 undone", call.of(x, 23), INVALID);
        x.house(3, 20);
        for (int house = 0; house < 24; house++) notInvalid("with 24 houses, house " + house, call.of(x, house));
    }

    // ---- what the tests begin with

    /** So many houses: 20 in street 0, by their places, and the next ones in street 1. */
    void fill(int houses) {
        for (int house = 0; house < houses; house++) x.house(house / 20, house % 20 + 1);
    }

    /** A new object with one house, at (3, 1), which is not read on walks and gets no refunds. */
    void oneHouse() {
        begin();
        x.set(0, 0);
        x.set(2, 99);
        x.house(3, 1);
    }

    void pass(int days) {
        int left = days;
        for (; left > 99; left -= 99) x.days(99);
        if (left > 0) x.days(left);
    }

    /** Lets a dial go on, in at least one day; the flow is 0 then. */
    void goOn(int house, int hundredths) {
        if (hundredths >= 999) {
            x.flow(house, 999);
            pass(hundredths / 999);
        }
        x.flow(house, hundredths % 999);
        x.days(1);
        x.flow(house, 0);
    }

    /** One house as of oneHouse(), with a balance from -98 to 98, and nothing used. */
    void withBalance(int balance) {
        oneHouse();
        if (balance > 50) {
            usedAndRead(1);
            usedAndRead(99 - balance);
        } else if (balance < -49) {
            usedAndRead(99);
            usedAndRead(1 - balance);
        } else {
            usedAndRead(balance > 0 ? 100 - balance : -balance);
        }
    }

    void usedAndRead(int hundredths) {
        goOn(0, hundredths);
        x.read(0);
    }

    int balance(int house) {
        return x.houseOf(house, 4) - 1000;
    }

    /** The day 9999, by 101 calls. */
    void toTheLastDay() {
        pass(9999);
    }

    void text(String text) {
        x.clearText();
        for (int i = 0; i < text.length(); i++) x.type(text.charAt(i));
    }

    // ---- what is looked at often

    void facts(int house, int... wanted) {
        int[] got = new int[wanted.length];
        for (int what = 0; what < wanted.length; what++) got[what] = x.houseOf(house, what);
        alike("houseOf(" + house + ", 0 to " + (wanted.length - 1) + ")", got, wanted);
    }

    void entry(int ago, int... wanted) {
        int[] got = new int[wanted.length];
        for (int what = 0; what < wanted.length; what++) got[what] = x.ledger(ago, what);
        alike("ledger(" + ago + ", 0 to " + (wanted.length - 1) + ")", got, wanted);
    }

    /** The houses that the ledger tells, the latest first, and that there are no more. */
    void readHouses(int... wanted) {
        int[] got = new int[wanted.length];
        for (int ago = 0; ago < wanted.length; ago++) got[ago] = x.ledger(ago, 1);
        alike("the houses of the ledger", got, wanted);
        due("entries", x.count(14), wanted.length);
        due("ledger behind the oldest entry", x.ledger(wanted.length, 1), NOT_FOUND);
    }

    /** All houses of a street in the order of the next walk, and that there are no more. */
    void order(int street, int... wanted) {
        int[] got = new int[wanted.length];
        for (int rank = 0; rank < wanted.length; rank++) got[rank] = x.next(street, rank);
        alike("next(" + street + ", 0 to " + (wanted.length - 1) + ")", got, wanted);
        due("next behind the last one", x.next(street, wanted.length), NOT_FOUND);
    }

    void noFault(String what) {
        alike("fault() " + what, new int[] {x.fault(0), x.fault(1), x.fault(2)}, new int[] {NOT_FOUND, NOT_FOUND, NOT_FOUND});
    }

    void fault(String what, int position, int reason, int cause) {
        alike("fault() " + what, new int[] {x.fault(0), x.fault(1), x.fault(2)}, new int[] {position, reason, cause});
    }
}
