import java.util.Arrays;
import java.util.function.Consumer;
import java.util.function.ToIntFunction;

/** Boundary cases of calls that return an error, that only ask, or that are undone: they leave an object as it is. */
final class RefusalEdges extends Edges {
    /** A way to build an object, and how such an object looks. */
    private Consumer<Counted> build;
    private int[][] looks;

    @Override
    void run() {
        refusedByANewObject();
        refusedByALivelyObject();
        refusedTexts();
        refusedByAFullObject();
        asking();
        undone();
    }

    private void built(Consumer<Counted> build) {
        this.build = build;
        looks = new int[Looks.ALL][];
        for (int part = 0; part < Looks.ALL; part++) {
            Counted x = new Counted();
            build.accept(x);
            looks[part] = Looks.part(x, part);
        }
    }

    /** That an object looks the same, in the first parts, with some calls as without them. */
    private void sameWith(String what, int parts, Consumer<Counted> calls) {
        for (int part = 0; part < parts; part++) {
            Counted x = new Counted();
            build.accept(x);
            calls.accept(x);
            alike("part " + part + " behind " + what, Looks.part(x, part), looks[part]);
        }
    }

    private void refused(String what, int error, ToIntFunction<Counted> call) {
        sameWith(what, Looks.ALL, x -> due(what, call.applyAsInt(x), error));
    }

    // ---- the objects

    private static void nothing(Counted x) {
    }

    /** Day 22: seven houses in all streets with readings and refunds, the house 4 locked, and a text without a fault. */
    static void lively(Counted x) {
        x.set(2, 1);
        x.set(3, 5);
        for (int house = 0; house < 7; house++) {
            x.house(house % 4, 3 * house + 1);
            x.flow(house, 37 * house + 15);
        }
        x.lock(4, true);
        x.days(21);
        x.set(1, 9);
        x.change(2);
        x.days(1);
        write(x, "h2,1;f1,99;l0;c3;d9;");
    }

    /** The last day: 24 houses, a text of 60 characters, a full ledger and a full history. */
    private static void full(Counted x) {
        for (int house = 0; house < 24; house++) {
            x.house(house % 4, house / 4 + 1);
            x.flow(house, 41 * house);
        }
        for (int call = 0; call < 101; call++) x.days(99);
        write(x, "f00,001;f01,002;f02,003;f03,004;f04,005;f05,006;f06,7;l0;d1;");
    }

    static void write(Counted x, String text) {
        x.clearText();
        for (int i = 0; i < text.length(); i++) x.type(text.charAt(i));
    }

    // ---- errors

    private void refusedByANewObject() {
        under("Terms");
        edge("A call that returns an error changes nothing.", () -> {
            built(RefusalEdges::nothing);
            refused("undo()", NOT_POSSIBLE, x -> x.undo());
            refused("mean()", NOT_FOUND, x -> x.mean());
            refused("fault() of no text", NOT_FOUND, x -> x.fault(0));
            refused("ledger()", NOT_FOUND, x -> x.ledger(0, 0));
            refused("wronged()", NOT_FOUND, x -> x.wronged(0));
            refusedArguments(0);
        });
    }

    private void refusedByALivelyObject() {
        edge("A call that returns an error changes nothing.", () -> {
            built(x -> {
                lively(x);
                x.read(0);
            });
            refused("house() at a taken place", NOT_POSSIBLE, x -> x.house(0, 1));
            refused("read() of a locked house", NOT_POSSIBLE, x -> x.read(4));
            refused("read() of a house that was read", NOT_POSSIBLE, x -> x.read(0));
            refused("at() of a free place", NOT_FOUND, x -> x.at(0, 2));
            refused("next() behind the last one", NOT_FOUND, x -> x.next(0, 2));
            refused("ledger() behind the oldest one", NOT_FOUND, x -> x.ledger(10, 0));
            refused("fault() of a text without one", NOT_FOUND, x -> x.fault(0));
            refusedArguments(7);
        });
    }

    private void refusedTexts() {
        edge("A call that returns an error changes nothing.", () -> {
            for (String text : new String[] {"d9;c0;h3,19;x", "d9;c0;h3,19;f9,1;", "d9;l0;r0;", "h3,19;f7,9;d1;h3,19;", "d99;d0;", "c0;c0;c0"}) {
                built(x -> {
                    lively(x);
                    write(x, text);
                });
                refused("play() of " + text, NOT_POSSIBLE, x -> x.play());
            }
        });
    }

    private void refusedByAFullObject() {
        edge("A call that returns an error changes nothing.", () -> {
            built(RefusalEdges::full);
            refused("house() with 24", LIMIT, x -> x.house(3, 20));
            refused("house() at a taken place, with 24", NOT_POSSIBLE, x -> x.house(0, 1));
            refused("days() on the last day", LIMIT, x -> x.days(1));
            refused("days() on the last day", LIMIT, x -> x.days(99));
            refused("type() to a full text", LIMIT, x -> x.type('d'));
            refused("play() beyond the last day", NOT_POSSIBLE, x -> x.play());
            refused("wronged() behind the last one", NOT_FOUND, x -> x.wronged(24));
            refusedArguments(24);
        });
    }

    /** All calls with arguments that are out of their ranges, on an object with so many houses. */
    private void refusedArguments(int houses) {
        for (int house : new int[] {-1, houses}) refusedHouse(house);
        for (int flow : new int[] {-1, 1000}) refused("flow()", INVALID, x -> x.flow(0, flow));
        for (int street : new int[] {-1, 4}) {
            refused("house()", INVALID, x -> x.house(street, 20));
            refused("at()", INVALID, x -> x.at(street, 20));
            refused("next()", INVALID, x -> x.next(street, 0));
        }
        for (int place : new int[] {0, 21}) {
            refused("house()", INVALID, x -> x.house(3, place));
            refused("at()", INVALID, x -> x.at(3, place));
        }
        for (int many : new int[] {0, 100}) {
            refused("days()", INVALID, x -> x.days(many));
            refused("ifDays()", INVALID, x -> x.ifDays(many, 0));
        }
        int[][] settings = {{-1, 5}, {4, 5}, {0, -1}, {0, 13}, {1, 0}, {1, 51}, {2, 0}, {2, 100}, {3, 4}, {3, 401}};
        for (int[] setting : settings) refused("set()", INVALID, x -> x.set(setting[0], setting[1]));
        for (int character : new int[] {31, 127}) refused("type()", INVALID, x -> x.type(character));
        for (int what : new int[] {-1, 99}) refusedWhat(what);
        refused("next()", INVALID, x -> x.next(0, -1));
        refused("ledger()", INVALID, x -> x.ledger(-1, 0));
        refused("wronged()", INVALID, x -> x.wronged(-1));
    }

    private void refusedHouse(int house) {
        refused("flow()", INVALID, x -> x.flow(house, 1));
        refused("lock()", INVALID, x -> x.lock(house, true));
        refused("read()", INVALID, x -> x.read(house));
        refused("change()", INVALID, x -> x.change(house));
        refused("houseOf()", INVALID, x -> x.houseOf(house, 1));
        refused("why()", INVALID, x -> x.why(house));
        refused("ifRead()", INVALID, x -> x.ifRead(house, 1));
        refused("refundIn()", INVALID, x -> x.refundIn(house));
    }

    private void refusedWhat(int what) {
        refused("houseOf()", INVALID, x -> x.houseOf(0, what));
        refused("ledger()", INVALID, x -> x.ledger(0, what));
        refused("ifRead()", INVALID, x -> x.ifRead(0, what));
        refused("ifDays()", INVALID, x -> x.ifDays(99, what));
        refused("count()", INVALID, x -> x.count(what));
        refused("fault()", INVALID, x -> x.fault(what));
    }

    // ---- calls that only ask, and changes that are undone

    private void asking() {
        edge("The changes are the calls of house, flow, lock, read, change, days, set and play", () -> {
            built(RefusalEdges::lively);
            sameWith("houseOf()", Looks.ALL, x -> x.houseOf(0, 2));
            sameWith("at()", Looks.ALL, x -> x.at(0, 1));
            sameWith("next()", Looks.ALL, x -> x.next(0, 1));
            sameWith("ledger()", Looks.ALL, x -> x.ledger(9, 5));
            sameWith("why()", Looks.ALL, x -> x.why(0));
            sameWith("ifRead()", Looks.ALL, x -> x.ifRead(0, 0));
            sameWith("wronged()", Looks.ALL, x -> x.wronged(0));
            sameWith("refundIn()", Looks.ALL, x -> x.refundIn(0));
            sameWith("ifDays()", Looks.ALL, x -> x.ifDays(99, 0));
            sameWith("mean()", Looks.ALL, x -> x.mean());
            sameWith("count()", Looks.ALL, x -> x.count(12));
            sameWith("fault()", Looks.ALL, x -> x.fault(0));
            sameWith("type()", Looks.OF_TOWN, x -> x.type('d'));
            sameWith("clearText()", Looks.OF_TOWN, x -> x.clearText());
            due("states", states(x -> x.type('d')), 4);
            due("states", states(x -> x.clearText()), 4);
        });
    }

    private int states(ToIntFunction<Counted> call) {
        Counted x = new Counted();
        lively(x);
        call.applyAsInt(x);
        return x.count(15);
    }

    private void undone() {
        edge("each change records everything before it but the text", () -> {
            built(RefusalEdges::lively);
            undone("house()", x -> x.house(2, 20));
            undone("flow()", x -> x.flow(0, 998));
            undone("lock()", x -> x.lock(0, true));
            undone("read()", x -> x.read(0));
            undone("change()", x -> x.change(1));
            undone("days()", x -> x.days(99));
            undone("set()", x -> x.set(3, 6));
            undone("play()", x -> x.play());
        });
    }

    private void undone(String what, ToIntFunction<Counted> change) {
        sameWith("undo() of " + what, Looks.OF_TOWN, x -> {
            due(what + " returns an error", call(x, change), 0);
            due("undo()", x.undo(), 3);
        });
        Counted x = new Counted();
        build.accept(x);
        change.applyAsInt(x);
        int alike = 0;
        for (int part = 0; part < 3; part++) {
            Counted other = new Counted();
            build.accept(other);
            change.applyAsInt(other);
            if (Arrays.equals(Looks.part(other, part), looks[part])) alike++;
        }
        due(what + " left all as it was", alike == 3 ? 1 : 0, 0);
    }

    private static int call(Counted x, ToIntFunction<Counted> change) {
        return change.applyAsInt(x) < 0 ? 1 : 0;
    }
}
