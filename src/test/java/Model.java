import java.math.BigDecimal;
import java.math.RoundingMode;
import java.util.ArrayDeque;
import java.util.ArrayList;
import java.util.Comparator;
import java.util.Deque;
import java.util.List;
import java.util.regex.Matcher;
import java.util.regex.Pattern;

/** The document once more, written in another way: with copies, lists, sorting and patterns. */
final class Model {
    static final int INVALID = -1000001;
    static final int NOT_POSSIBLE = -1000002;
    static final int LIMIT = -1000003;
    static final int NOT_FOUND = -1000004;

    static final class Reading {
        int day, house, used, units, balance, price;
    }

    static final class House implements Cloneable {
        int number, street, place, flow, balance, changed, refunds;
        long gone, goneAtMeter, goneAtReading;
        boolean locked;
        House copy() {
            try {
                return (House) clone();
            } catch (CloneNotSupportedException e) {
                throw new IllegalStateException(e);
            }
        }
        int dial() { return (int) ((gone - goneAtMeter) % 100000); }
        int used() { return (int) ((gone - goneAtReading) % 100000); }
    }

    static final class World {
        List<House> houses = new ArrayList<>();
        List<Reading> readings = new ArrayList<>();
        int[] settings = {3, 7, 50, 60};
        int[] latestPlace = new int[4];
        int now, years, refunds, paidBack;

        World copy() {
            World w = new World();
            for (House h : houses) w.houses.add(h.copy());
            w.readings = new ArrayList<>(readings);
            w.settings = settings.clone();
            w.latestPlace = latestPlace.clone();
            w.now = now; w.years = years; w.refunds = refunds; w.paidBack = paidBack;
            return w;
        }

        boolean has(int house) { return house >= 0 && house < houses.size(); }

        House at(int street, int place) {
            for (House h : houses) if (h.street == street && h.place == place) return h;
            return null;
        }

        int units(House h) {
            RoundingMode mode = h.balance > 0 ? RoundingMode.FLOOR : h.balance < 0 ? RoundingMode.CEILING : RoundingMode.HALF_UP;
            return BigDecimal.valueOf(h.used(), 2).setScale(0, mode).intValueExact();
        }

        int latestDay(House h) {
            int day = -1;
            for (Reading r : readings) if (r.house == h.number) day = r.day;
            return day;
        }

        int why(House h) {
            if (h.locked) return 1;
            return latestDay(h) == now ? 2 : 0;
        }

        int read(House h) {
            Reading r = new Reading();
            r.day = now; r.house = h.number; r.used = h.used(); r.units = units(h); r.price = settings[1];
            h.balance = h.balance + 100 * r.units - r.used;
            r.balance = h.balance;
            h.goneAtReading = h.gone;
            readings.add(r);
            return r.units;
        }

        int change(House h) {
            int units = read(h);
            h.goneAtMeter = h.gone;
            h.changed++;
            return units;
        }

        /** All houses of a street in the order in which the next walk tries them. */
        List<House> walkOrder(int street) {
            List<Integer> places = new ArrayList<>();
            for (int p = 1; p <= 19; p += 2) places.add(p);
            for (int p = 20; p >= 2; p -= 2) places.add(p);
            int begin = latestPlace[street] == 0 ? 0 : places.indexOf(latestPlace[street]) + 1;
            List<House> order = new ArrayList<>();
            for (int i = 0; i < 20; i++) {
                House h = at(street, places.get((begin + i) % 20));
                if (h != null) order.add(h);
            }
            return order;
        }

        void day() {
            for (House h : houses) h.gone += h.flow;
            now++;
            int left = settings[0];
            for (House h : walkOrder(now % 4)) {
                if (left > 0 && why(h) == 0) {
                    read(h);
                    latestPlace[now % 4] = h.place;
                    left--;
                }
            }
            if (now % settings[3] == 0) {
                years++;
                for (House h : houses) {
                    if (h.balance >= settings[2]) {
                        h.balance -= 100;
                        h.refunds++;
                        refunds++;
                        paidBack += settings[1];
                    }
                }
            }
        }

        int days(int many) {
            int before = readings.size();
            for (int i = 0; i < many; i++) day();
            return readings.size() - before;
        }

        int order(char kind, int a, int b) {
            switch (kind) {
                case 'h':
                    if (a < 0 || a > 3 || b < 1 || b > 20) return INVALID;
                    if (at(a, b) != null) return NOT_POSSIBLE;
                    if (houses.size() == 24) return LIMIT;
                    House h = new House();
                    h.number = houses.size(); h.street = a; h.place = b;
                    houses.add(h);
                    return h.number;
                case 'd':
                    if (a < 1 || a > 99) return INVALID;
                    if (now + a > 9999) return LIMIT;
                    return days(a);
                default:
            }
            if (!has(a)) return INVALID;
            House h = houses.get(a);
            int was;
            switch (kind) {
                case 'f':
                    if (b < 0 || b > 999) return INVALID;
                    was = h.flow;
                    h.flow = b;
                    return was;
                case 'l':
                    was = h.locked ? 1 : 0;
                    h.locked = !h.locked;
                    return was;
                case 'r': return why(h) != 0 ? NOT_POSSIBLE : read(h);
                default: return change(h);
            }
        }
    }

    World world = new World();
    Deque<World> history = new ArrayDeque<>();
    String text = "";

    private int keepIf(World before, int answer) {
        if (answer < 0) return answer;
        history.addLast(before);
        if (history.size() > 4) history.removeFirst();
        return answer;
    }

    int order(char kind, int a, int b) {
        World before = world.copy();
        return keepIf(before, world.order(kind, a, b));
    }

    int lock(int house, boolean locked) {
        if (!world.has(house)) return INVALID;
        World before = world.copy();
        int was = world.houses.get(house).locked ? 1 : 0;
        world.houses.get(house).locked = locked;
        return keepIf(before, was);
    }

    int set(int what, int value) {
        int[][] ranges = {{0, 12}, {1, 50}, {1, 99}, {5, 400}};
        if (what < 0 || what > 3 || value < ranges[what][0] || value > ranges[what][1]) return INVALID;
        World before = world.copy();
        int was = world.settings[what];
        world.settings[what] = value;
        return keepIf(before, was);
    }

    int houseOf(int house, int what) {
        if (!world.has(house) || what < 0 || what > 13) return INVALID;
        House h = world.houses.get(house);
        int readings = 0, units = 0, above = 0, below = 0;
        for (Reading r : world.readings) {
            if (r.house == house) {
                readings++;
                units += r.units;
                if (r.balance > 0) above++;
                if (r.balance < 0) below++;
            }
        }
        int day = world.latestDay(h);
        int[] facts = {h.street, h.place, h.dial(), h.used(), 1000 + h.balance, h.flow, h.locked ? 1 : 0,
            day < 0 ? NOT_FOUND : day, readings, units, above, below, h.refunds, h.changed};
        return facts[what];
    }

    int at(int street, int place) {
        if (street < 0 || street > 3 || place < 1 || place > 20) return INVALID;
        House h = world.at(street, place);
        return h == null ? NOT_FOUND : h.number;
    }

    int next(int street, int rank) {
        if (street < 0 || street > 3 || rank < 0) return INVALID;
        List<House> order = world.walkOrder(street);
        return rank >= order.size() ? NOT_FOUND : order.get(rank).number;
    }

    int ledger(int ago, int what) {
        if (ago < 0 || what < 0 || what > 5) return INVALID;
        if (ago >= Math.min(10, world.readings.size())) return NOT_FOUND;
        Reading r = world.readings.get(world.readings.size() - 1 - ago);
        int over = 100 * r.units - r.used;
        return new int[] {r.day, r.house, r.used, r.units, over == 0 ? 2 : over > 0 ? 1 : 0, 1000 + r.balance}[what];
    }

    int why(int house) {
        return world.has(house) ? world.why(world.houses.get(house)) : INVALID;
    }

    int ifRead(int house, int what) {
        if (!world.has(house) || what < 0 || what > 3) return INVALID;
        World w = world.copy();
        House h = w.houses.get(house);
        int units = w.read(h);
        return new int[] {units, 1000 + h.balance, h.balance > 0 ? 1 : h.balance < 0 ? 2 : 0, units * w.settings[1]}[what];
    }

    int wronged(int rank) {
        if (rank < 0) return INVALID;
        List<House> order = new ArrayList<>(world.houses);
        order.sort(Comparator.comparingInt((House h) -> -h.balance).thenComparingInt(h -> h.number));
        return rank >= order.size() ? NOT_FOUND : order.get(rank).number;
    }

    int refundIn(int house) {
        if (!world.has(house)) return INVALID;
        World w = world.copy();
        int before = w.houses.get(house).refunds;
        for (int day = 1; day <= 400; day++) {
            w.day();
            if (w.houses.get(house).refunds != before) return day;
        }
        return NOT_FOUND;
    }

    static int units(World w) {
        return w.readings.stream().mapToInt(r -> r.units).sum();
    }

    int ifDays(int many, int what) {
        if (many < 1 || many > 99 || what < 0 || what > 2) return INVALID;
        World w = world.copy();
        int read = w.days(many);
        return new int[] {read, units(w) - units(world), w.refunds - world.refunds}[what];
    }

    int mean() {
        if (world.houses.isEmpty()) return NOT_FOUND;
        int sum = world.houses.stream().mapToInt(h -> Math.abs(h.balance)).sum();
        return Float.floatToIntBits((float) sum / (float) world.houses.size());
    }

    int count(int what) {
        List<House> hs = world.houses;
        List<Reading> rs = world.readings;
        switch (what) {
            case 0: return world.now;
            case 1: return hs.size();
            case 2: return (int) hs.stream().filter(h -> h.locked).count();
            case 3: return rs.size();
            case 4: return units(world);
            case 5: return rs.stream().mapToInt(r -> r.units * r.price).sum();
            case 6: return rs.stream().mapToInt(r -> r.used).sum();
            case 7: return world.refunds;
            case 8: return world.paidBack;
            case 9: return (int) hs.stream().filter(h -> h.balance > 0).count();
            case 10: return (int) hs.stream().filter(h -> h.balance < 0).count();
            case 11:
            case 12: return 10000 + hs.stream().mapToInt(h -> h.balance).sum();
            case 13: return world.years;
            case 14: return Math.min(10, rs.size());
            case 15: return history.size();
            case 16: return text.length();
            default: return what >= 20 && what <= 23 ? world.settings[what - 20] : INVALID;
        }
    }

    int undo() {
        if (history.isEmpty()) return NOT_POSSIBLE;
        world = history.removeLast();
        return history.size();
    }

    int type(int character) {
        if (character < 32 || character > 126) return INVALID;
        if (text.length() == 60) return LIMIT;
        text += (char) character;
        return text.length();
    }

    int clearText() {
        int was = text.length();
        text = "";
        return was;
    }

    static final Pattern FORM = Pattern.compile("([hf])([0-9]{1,3}),([0-9]{1,3});|([lrcd])([0-9]{1,3});");

    /** Does the orders; answers {position, reason, cause}, or {-1, how many, 0} without a fault. */
    int[] perform(World w) {
        int start = 0;
        int many = 0;
        while (start < text.length()) {
            String rest = text.substring(start);
            Matcher m = FORM.matcher(rest);
            if (!m.lookingAt()) return new int[] {start, 1, breakOff(rest)};
            int answer = m.group(1) != null
                ? w.order(m.group(1).charAt(0), Integer.parseInt(m.group(2)), Integer.parseInt(m.group(3)))
                : w.order(m.group(4).charAt(0), Integer.parseInt(m.group(5)), 0);
            if (answer < 0) return new int[] {start, 2, answer};
            start += m.end();
            many++;
        }
        return new int[] {-1, many, 0};
    }

    /** The length of the longest beginning that some order has. */
    private static int breakOff(String rest) {
        int length = 0;
        while (length < rest.length()) {
            Matcher m = FORM.matcher(rest.substring(0, length + 1));
            if (!m.matches() && !m.hitEnd()) break;
            length++;
        }
        return length;
    }

    int fault(int what) {
        if (what < 0 || what > 2) return INVALID;
        int[] fault = perform(world.copy());
        return fault[0] < 0 ? NOT_FOUND : fault[what];
    }

    int play() {
        World before = world.copy();
        World after = world.copy();
        int[] fault = perform(after);
        if (fault[0] >= 0) return NOT_POSSIBLE;
        world = after;
        return keepIf(before, fault[1]);
    }
}
