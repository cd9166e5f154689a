/** Boundary cases of texts: their characters, their orders, their faults, and what is done by them. */
final class TextEdges extends Edges {
    private static final String DIGITS = "0123456789";

    @Override
    void run() {
        length();
        orders();
        form();
        cutOff();
        position();
        reason();
        errors();
        stays();
        type();
        clearText();
        fault();
        play();
    }

    private void faultOf(String text, int position, int reason, int cause) {
        text(text);
        fault("of " + text, position, reason, cause);
    }

    private void noFaultOf(String text) {
        text(text);
        noFault("of " + text);
    }

    // ---- characters

    private void length() {
        under("Terms");
        edge("There is a text of at most 60 characters, initially empty", () -> {
            due("at first", x.count(16), 0);
            noFault("of no text");
            for (int length = 1; length <= 60; length++) due("type()", x.type('d'), length);
            due("a 61st character", x.type('d'), LIMIT);
            due("length", x.count(16), 60);
            fault("of 60 characters", 0, 1, 1);
        });
        edge("There is a text of at most 60 characters, initially empty", () -> {
            String nearly = "d1;".repeat(19);
            noFaultOf(nearly + "d1;");
            due("20 orders in 60 characters", x.play(), 20);
            due("now", x.count(0), 20);
            faultOf(nearly + "d1", 57, 1, 2);
            faultOf(nearly + "d10;", 57, 1, 3);
            due("length", x.count(16), 60);
            x.type(';');
            fault("the 61st character is not there", 57, 1, 3);
        });
    }

    // ---- orders

    private void orders() {
        edge("orders, each followed by \";\"", () -> {
            noFaultOf("d1;");
            noFaultOf("d1;d1;");
            faultOf("d1", 0, 1, 2);
            faultOf("d1;d1", 3, 1, 2);
            faultOf("d1d1;", 0, 1, 2);
            faultOf("d1,d1;", 0, 1, 2);
            faultOf(";", 0, 1, 0);
            faultOf(";d1;", 0, 1, 0);
            faultOf("d1;;", 3, 1, 0);
            faultOf("d1; d1;", 3, 1, 0);
            faultOf(" d1;", 0, 1, 0);
        });
        edge("\"h\" a street, \",\", a place (a house comes)", () -> {
            text("h0,1;h3,20;");
            due("orders", x.play(), 2);
            facts(0, 0, 1);
            facts(1, 3, 20);
            faultOf("h4,1;", 0, 2, INVALID);
            faultOf("h0,0;", 0, 2, INVALID);
            faultOf("h0,21;", 0, 2, INVALID);
            faultOf("h999,999;", 0, 2, INVALID);
        });
        edge("\"f\" a house, \",\", a flow", () -> {
            x.house(0, 1);
            text("f0,999;d1;");
            due("orders", x.play(), 2);
            facts(0, 0, 1, 999, 999, 1000, 999);
            text("f0,0;d1;");
            due("orders", x.play(), 2);
            facts(0, 0, 1, 999, 999, 1000, 0);
            faultOf("f1,0;", 0, 2, INVALID);
            faultOf("f0,1000;", 0, 1, 6);
        });
        edge("\"l\" a house (is locked, if it is not, otherwise not)", () -> {
            x.house(0, 1);
            text("l0;");
            for (int time = 1; time <= 5; time++) {
                due("orders", x.play(), 1);
                due("locked", x.houseOf(0, 6), time % 2);
            }
            text("l0;l0;");
            due("orders", x.play(), 2);
            due("locked", x.houseOf(0, 6), 1);
            faultOf("l1;", 0, 2, INVALID);
        });
        edge("\"r\" a house (is read)", () -> {
            x.house(0, 1);
            text("r0;");
            due("orders", x.play(), 1);
            due("readings", x.houseOf(0, 8), 1);
            fault("of r0; once more", 0, 2, NOT_POSSIBLE);
            faultOf("r1;", 0, 2, INVALID);
        });
        edge("\"c\" a house (its meter is changed)", () -> {
            x.house(0, 1);
            x.lock(0, true);
            text("c0;c0;");
            due("orders", x.play(), 2);
            due("meters changed", x.houseOf(0, 13), 2);
            faultOf("c1;", 0, 2, INVALID);
        });
        edge("\"d\" days (that pass)", () -> {
            text("d1;");
            due("orders", x.play(), 1);
            due("now", x.count(0), 1);
            text("d99;");
            due("orders", x.play(), 1);
            due("now", x.count(0), 100);
            faultOf("d0;", 0, 2, INVALID);
            faultOf("d100;", 0, 2, INVALID);
            faultOf("d999;", 0, 2, INVALID);
        });
        edge("numbers of 1 to 3 digits, 0 ahead allowed", () -> {
            text("h0,1;h00,02;h000,003;f0,7;f01,07;f002,007;l0;l00;l000;r1;c02;d01;d001;");
            due("it is too long", x.count(16), 60);
            text("h0,1;h00,02;h000,003;f0,7;f01,07;f002,007;l00;l000;");
            due("orders", x.play(), 8);
            facts(0, 0, 1, 0, 0, 1000, 7, 0);
            facts(1, 0, 2, 0, 0, 1000, 7, 0);
            facts(2, 0, 3, 0, 0, 1000, 7, 0);
            text("r01;r002;c00;c000;d01;d001;");
            due("orders", x.play(), 6);
            due("now", x.count(0), 2);
            faultOf("d;", 0, 1, 1);
            faultOf("d0001;", 0, 1, 4);
            faultOf("h,1;", 0, 1, 1);
            faultOf("h0000,1;", 0, 1, 4);
            faultOf("h0,;", 0, 1, 3);
            faultOf("h0,0001;", 0, 1, 6);
        });
    }

    // ---- at which places an order breaks off

    /** What may follow a beginning of an order. */
    private static String following(String beginning) {
        if (beginning.isEmpty()) return "hflrcd";
        boolean hasTwo = beginning.charAt(0) == 'h' || beginning.charAt(0) == 'f';
        int comma = beginning.indexOf(',');
        int digits = comma < 0 ? beginning.length() - 1 : beginning.length() - 1 - comma;
        String end = hasTwo && comma < 0 ? "," : ";";
        return digits == 0 ? DIGITS : digits == 3 ? end : DIGITS + end;
    }

    private static final String[] ONE_NUMBER = {"", "0", "99", "000", "999"};
    private static final String[] TWO_NUMBERS = {"", "0", "09", "000", "999", "0,", "10,", "999,", "0,0", "999,9", "0,09", "0,000", "999,999"};

    /** That each sign behind each of some beginnings breaks off there, or not, alone and with more behind it. */
    private void breaksOff(char letter, String[] numbers, String ahead) {
        for (String number : numbers) {
            String beginning = letter + number;
            String follows = following(beginning);
            for (char sign = 32; sign <= 126; sign++) {
                boolean mayFollow = follows.indexOf(sign) >= 0;
                if (mayFollow && sign == ';') continue;
                begin();
                int cause = mayFollow ? beginning.length() + 1 : beginning.length();
                faultOf(ahead + beginning + sign, ahead.length(), 1, cause);
                if (mayFollow) continue;
                begin();
                faultOf(ahead + beginning + sign + ";d1;", ahead.length(), 1, cause);
            }
        }
    }

    private void form() {
        for (char letter : "hflrcd".toCharArray()) {
            edge("its cause is with the reason 1 at which character of the order, from 0, it breaks off", () -> {
                String[] numbers = letter == 'h' || letter == 'f' ? TWO_NUMBERS : ONE_NUMBER;
                breaksOff(letter, numbers, "");
                breaksOff(letter, numbers, "d1;h0,1;");
            });
        }
        edge("its cause is with the reason 1 at which character of the order, from 0, it breaks off", () -> {
            for (char sign = 32; sign <= 126; sign++) {
                begin();
                boolean isLetter = "hflrcd".indexOf(sign) >= 0;
                faultOf("" + sign, 0, 1, isLetter ? 1 : 0);
                faultOf(sign + "~", 0, 1, isLetter ? 1 : 0);
                faultOf("d9;" + sign, 3, 1, isLetter ? 1 : 0);
            }
        });
    }

    private void cutOff() {
        edge("(of one that the text ends too early it is its length)", () -> {
            for (String order : new String[] {"h0,1;", "h003,020;", "f0,1;", "f000,999;", "l0;", "l000;", "r0;", "r000;", "c0;", "c000;", "d1;", "d099;"}) {
                for (int length = 1; length < order.length(); length++) {
                    begin();
                    x.house(2, 2);
                    faultOf(order.substring(0, length), 0, 1, length);
                    faultOf("h1,1;d4;" + order.substring(0, length), 8, 1, length);
                }
                begin();
                x.house(2, 2);
                noFaultOf(order);
                noFaultOf("h1,1;d5;" + order);
            }
        });
    }

    // ---- where a fault is, and why

    private void position() {
        edge("The fault of the text is the position, from 0, of the first character of the first order that is not possible", () -> {
            faultOf("x", 0, 1, 0);
            faultOf("d0;", 0, 2, INVALID);
            faultOf("d0;x", 0, 2, INVALID);
            faultOf("x;d0;", 0, 1, 0);
            faultOf("d1;d0;d0;", 3, 2, INVALID);
            faultOf("d1;d99;d100;x", 7, 2, INVALID);
            faultOf("d1;d99;x;d100;", 7, 1, 0);
            text("d01;d001;d01;d001;d01;d001;d01;d001;d01;d001;d01;d001;d01;x");
            due("length", x.count(16), 59);
            fault("at the 59th character", 58, 1, 0);
            text("d001;d001;d001;d001;d001;d001;d001;d001;d001;d001;d001;d01;x");
            due("length", x.count(16), 60);
            fault("at the 60th character", 59, 1, 0);
        });
    }

    private void reason() {
        edge("its reason is 1 if it is not of this form, its \";\" included", () -> {
            faultOf("d0", 0, 1, 2);
            faultOf("d0;", 0, 2, INVALID);
            faultOf("h9,9", 0, 1, 4);
            faultOf("h9,9;", 0, 2, INVALID);
            faultOf("r0", 0, 1, 2);
            faultOf("r0;", 0, 2, INVALID);
            x.house(0, 1);
            x.lock(0, true);
            faultOf("r0", 0, 1, 2);
            faultOf("r0;", 0, 2, NOT_POSSIBLE);
        });
        edge("and otherwise 2, when those ahead of it are done", () -> {
            faultOf("h0,1;h0,1;", 5, 2, NOT_POSSIBLE);
            noFaultOf("h0,1;h0,2;");
            faultOf("f0,1;h0,1;", 0, 2, INVALID);
            noFaultOf("h0,1;f0,1;");
            faultOf("h0,1;f1,1;", 5, 2, INVALID);
            noFaultOf("h0,1;r0;");
            faultOf("h0,1;r0;r0;", 8, 2, NOT_POSSIBLE);
            noFaultOf("h0,1;r0;d1;r0;");
            faultOf("h0,1;r0;d4;r0;", 11, 2, NOT_POSSIBLE);
            faultOf("h0,1;c0;r0;", 8, 2, NOT_POSSIBLE);
            faultOf("h0,1;l0;r0;", 8, 2, NOT_POSSIBLE);
            noFaultOf("h0,1;l0;l0;r0;");
            due("houses", x.count(1), 0);
            due("now", x.count(0), 0);
        });
    }

    private void errors() {
        edge("and with the reason 2 the error code that the call returns for it", () -> {
            fill(23);
            noFaultOf("h3,1;");
            faultOf("h3,1;h3,2;", 5, 2, LIMIT);
            faultOf("h3,1;h3,1;", 5, 2, NOT_POSSIBLE);
            faultOf("h3,1;h3,21;", 5, 2, INVALID);
            faultOf("h3,1;h4,1;", 5, 2, INVALID);
            faultOf("f23,1;", 0, 2, INVALID);
            noFaultOf("h3,1;f23,1;");
            faultOf("h3,1;f24,1;", 5, 2, INVALID);
            faultOf("h3,1;l24;", 5, 2, INVALID);
            faultOf("h3,1;r24;", 5, 2, INVALID);
            faultOf("h3,1;c24;", 5, 2, INVALID);
            noFaultOf("h3,1;l23;c23;");
        });
        edge("and with the reason 2 the error code that the call returns for it", () -> {
            pass(9900);
            noFaultOf("d99;");
            faultOf("d99;d1;", 4, 2, LIMIT);
            faultOf("d98;d2;", 4, 2, LIMIT);
            noFaultOf("d98;d1;");
            faultOf("d99;d0;", 4, 2, INVALID);
            faultOf("d99;d100;", 4, 2, INVALID);
            text("d99;");
            due("play()", x.play(), 1);
            due("now", x.count(0), 9999);
            fault("on the last day", 0, 2, LIMIT);
            faultOf("d100;", 0, 2, INVALID);
            noFaultOf("h0,1;r0;c0;");
        });
    }

    private void stays() {
        edge("The text stays, whether it has a fault or not.", () -> {
            text("h0,1;d1;");
            noFault("at first");
            due("length behind fault()", x.count(16), 8);
            due("play()", x.play(), 2);
            due("length behind play()", x.count(16), 8);
            fault("of the same text", 0, 2, NOT_POSSIBLE);
            due("length behind a fault", x.count(16), 8);
            due("play()", x.play(), NOT_POSSIBLE);
            due("length behind play() with a fault", x.count(16), 8);
            x.undo();
            due("length behind undo()", x.count(16), 8);
            due("play()", x.play(), 2);
        });
    }

    // ---- the calls

    private void type() {
        under("Promise 21: type");
        edge("`character`: 32 to 126", () -> {
            for (int character : new int[] {31, 30, 0, -1, -32, 127, 128, 32 + 256, 126 + 256, 65536 + 'd', LEAST, MOST}) {
                due("type(" + character + ")", x.type(character), INVALID);
            }
            due("length", x.count(16), 0);
            for (int character = 32; character <= 126; character++) {
                x.clearText();
                due("type(" + character + ")", x.type(character), 1);
            }
        });
        edge("Returns the length of the text", () -> {
            for (int length = 1; length <= 60; length++) {
                due("type()", x.type(32 + length), length);
                due("count(16)", x.count(16), length);
            }
        });
        edge("INVALID_ARGUMENT if character is out of range", () -> {
            for (int length = 0; length < 60; length++) {
                due("31", x.type(31), INVALID);
                due("127", x.type(127), INVALID);
                x.type('d');
            }
            due("31 to a full text", x.type(31), INVALID);
            due("127 to a full text", x.type(127), INVALID);
        });
        edge("LIMIT_REACHED if it has 60 characters", () -> {
            for (int length = 1; length <= 59; length++) x.type('d');
            due("the 60th", x.type(126), 60);
            due("the 61st", x.type(126), LIMIT);
            due("the 61st", x.type(32), LIMIT);
            x.clearText();
            due("behind clearText()", x.type(126), 1);
        });
    }

    private void clearText() {
        under("Promise 22: clearText");
        edge("Empties the text.", () -> {
            text("x");
            fault("of x", 0, 1, 0);
            x.clearText();
            due("length", x.count(16), 0);
            noFault("of no text");
            due("play() of no text", x.play(), 0);
            text("d1;");
            noFault("of another text");
        });
        edge("Returns the length it had.", () -> {
            due("empty", x.clearText(), 0);
            due("empty again", x.clearText(), 0);
            for (int length : new int[] {1, 2, 59, 60}) {
                for (int typed = 0; typed < length; typed++) x.type('d');
                due("of " + length, x.clearText(), length);
                due("empty", x.clearText(), 0);
            }
            for (int typed = 0; typed < 61; typed++) x.type('d');
            due("of 61 typed ones", x.clearText(), 60);
        });
    }

    private void fault() {
        under("Promise 23: fault");
        edge("`what`: 0: its position", () -> {
            x.type('x');
            range("what", 0, 2, (x, what) -> x.fault(what));
            faultOf("d1;x", 3, 1, 0);
        });
        edge("1: its reason", () -> {
            faultOf("d1", 0, 1, 2);
            faultOf("d0;", 0, 2, INVALID);
        });
        edge("2: its cause", () -> {
            faultOf("~", 0, 1, 0);
            faultOf("h000,000", 0, 1, 8);
            faultOf("h000,000;", 0, 2, INVALID);
        });
        edge("INVALID_ARGUMENT if what is out of range", () -> {
            for (String text : new String[] {"", "d1;", "x", "d0;"}) {
                text(text);
                for (int what : new int[] {-1, 3, LEAST, MOST}) due("fault(" + what + ") of " + text, x.fault(what), INVALID);
            }
        });
        edge("NOT_FOUND if the text has no fault (also if it is empty)", () -> {
            noFault("of no text");
            noFaultOf("d1;");
            x.clearText();
            noFault("of no text again");
            faultOf("d", 0, 1, 1);
            x.type('1');
            x.type(';');
            noFault("of a text that was ended");
        });
    }

    private void play() {
        under("Promise 24: play");
        edge("Does all orders of the text, which stays.", () -> {
            text("h1,3;f0,95;d8;r0;l0;d4;c0;h2,2;");
            due("play()", x.play(), 8);
            facts(0, 1, 3, 0, 0, 960, 95, 1, 12, 4, 11, 1, 3, 0, 1);
            facts(1, 2, 2);
            due("now", x.count(0), 12);
            due("length", x.count(16), 31);
        });
        edge("They are one change, also if there are none.", () -> {
            due("play() of no text", x.play(), 0);
            due("states", x.count(15), 1);
            text("h0,1;h0,2;h0,3;d1;d1;d1;");
            due("play() of six orders", x.play(), 6);
            due("states", x.count(15), 2);
            due("undo()", x.undo(), 1);
            due("houses", x.count(1), 0);
            due("now", x.count(0), 0);
            due("undo() of none", x.undo(), 0);
        });
        edge("Returns how many there are in it", () -> {
            for (int orders = 0; orders <= 20; orders++) {
                begin();
                text("d1;".repeat(orders));
                due("play()", x.play(), orders);
                due("now", x.count(0), orders);
            }
        });
        edge("NOT_POSSIBLE if it has a fault", () -> {
            for (String text : new String[] {"x", "d1;x", "d1", "d1;d0;", "h0,1;d1;h0,1;", "h0,1;r0;r0;", ";"}) {
                text(text);
                due("play() of " + text, x.play(), NOT_POSSIBLE);
            }
            due("now", x.count(0), 0);
            due("houses", x.count(1), 0);
            due("states", x.count(15), 0);
        });
    }
}
