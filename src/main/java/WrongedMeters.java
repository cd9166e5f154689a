/** A meter reader who rounds in favour of whoever was wronged the last time. */
public final class WrongedMeters {
    /** An argument is out of its range, or there is no such house. */
    public static final int INVALID_ARGUMENT = -1000001;
    /** The call is not possible in the present state. */
    public static final int NOT_POSSIBLE = -1000002;
    /** A fixed limit has been reached. */
    public static final int LIMIT_REACHED = -1000003;
    /** There is no such value. */
    public static final int NOT_FOUND = -1000004;

    /** No house, day, step or number: what stands in its place. */
    private static final int NONE = -1;
    private static final int STREETS = 4;
    private static final int PLACES = 20;
    private static final int MOST_HOUSES = 24;
    private static final int MOST_FLOW = 999;
    private static final int MOST_DAYS = 99;
    private static final int LAST_DAY = 9999;
    private static final int MOST_DAYS_TO_REFUND = 400;
    /** Hundredths of a unit. */
    private static final int UNIT = 100;
    /** Hundredths with which a dial has gone round. */
    private static final int ROUND = 100000;
    /** What balances are told with, so that no answer is below 0. */
    private static final int TOLD_BALANCE = 1000;
    private static final int TOLD_BALANCES = 10000;

    private static final int LOCKED = 1;
    private static final int READ_TODAY = 2;
    private static final int NOT_OF_THE_FORM = 1;
    private static final int WITH_AN_ERROR = 2;

    private static final int HOUSES_A_DAY = 0;
    private static final int PRICE = 1;
    private static final int REFUND_FROM = 2;
    private static final int YEAR = 3;
    private static final int SETTINGS = 4;
    private static final int[] SETTING_LEAST = {0, 1, 1, 5};
    private static final int[] SETTING_MOST = {12, 50, 99, 400};
    private static final int[] SETTING_FIRST = {3, 7, 50, 60};

    private final Town town;
    /** Where it is tried out what would be, so that the town itself stays as it is. */
    private final Town trial;
    private final History history;
    private final Orders orders;

    public WrongedMeters() {
        town = new Town();
        trial = new Town();
        history = new History();
        orders = new Orders();
    }

    // ---- houses

    public int house(int street, int place) {
        return carryOut('h', street, place);
    }

    public int flow(int house, int flow) {
        return carryOut('f', house, flow);
    }

    public int lock(int house, boolean isLocked) {
        history.record(town);
        return kept(town.putLock(house, isLocked));
    }

    // ---- readings, days

    public int read(int house) {
        return carryOut('r', house, 0);
    }

    public int change(int house) {
        return carryOut('c', house, 0);
    }

    public int days(int many) {
        return carryOut('d', many, 0);
    }

    public int set(int what, int value) {
        history.record(town);
        return kept(town.putSetting(what, value));
    }

    // ---- what there is

    public int houseOf(int house, int what) {
        House asked = town.houseNumbered(house);
        return asked == null ? INVALID_ARGUMENT : asked.fact(what);
    }

    public int at(int street, int place) {
        Street asked = town.streetNumbered(street);
        if (asked == null || !isPlace(place)) {
            return INVALID_ARGUMENT;
        }
        int house = asked.houseOn(stepOf(place));
        return house == NONE ? NOT_FOUND : house;
    }

    public int next(int street, int rank) {
        Street asked = town.streetNumbered(street);
        if (asked == null || rank < 0) {
            return INVALID_ARGUMENT;
        }
        return asked.houseRanked(rank);
    }

    public int ledger(int ago, int what) {
        return town.ledger.entry(ago, what);
    }

    // ---- what would be

    public int why(int house) {
        House asked = town.houseNumbered(house);
        return asked == null ? INVALID_ARGUMENT : asked.reasonOn(town.now);
    }

    public int ifRead(int house, int what) {
        House asked = town.houseNumbered(house);
        if (asked == null) {
            return INVALID_ARGUMENT;
        }
        int used = asked.used();
        int units = unitsFor(used, asked.balance);
        int balance = asked.balance + UNIT * units - used;
        switch (what) {
            case 0: return units;
            case 1: return TOLD_BALANCE + balance;
            case 2: return balance > 0 ? 1 : balance < 0 ? 2 : 0;
            case 3: return units * town.settings[PRICE];
            default: return INVALID_ARGUMENT;
        }
    }

    public int wronged(int rank) {
        return rank < 0 ? INVALID_ARGUMENT : town.houseByBalance(rank);
    }

    public int refundIn(int house) {
        if (town.houseNumbered(house) == null) {
            return INVALID_ARGUMENT;
        }
        trial.copyFrom(town);
        return trial.passUntilRefund(house);
    }

    public int ifDays(int many, int what) {
        if (many < 1 || many > MOST_DAYS) {
            return INVALID_ARGUMENT;
        }
        trial.copyFrom(town);
        trial.passDays(many);
        switch (what) {
            case 0: return trial.readings - town.readings;
            case 1: return trial.units - town.units;
            case 2: return trial.refunds - town.refunds;
            default: return INVALID_ARGUMENT;
        }
    }

    public int mean() {
        if (town.houseCount <= 0) {
            return NOT_FOUND;
        }
        return bitsOf((float) town.balancesWithoutSigns() / (float) town.houseCount);
    }

    public int count(int what) {
        switch (what) {
            case 15: return history.size;
            case 16: return orders.length;
            default: return town.number(what);
        }
    }

    public int undo() {
        return history.restore(town);
    }

    // ---- texts

    public int type(int character) {
        return orders.append(character);
    }

    public int clearText() {
        return orders.empty();
    }

    public int fault(int what) {
        if (what < 0 || what > 2) {
            return INVALID_ARGUMENT;
        }
        trial.copyFrom(town);
        orders.doAllIn(trial);
        return orders.faultFact(what);
    }

    public int play() {
        trial.copyFrom(town);
        orders.doAllIn(trial);
        if (orders.reason != 0) {
            return NOT_POSSIBLE;
        }
        history.record(town);
        town.copyFrom(trial);
        return kept(orders.done);
    }

    // ---- of all of these

    private int carryOut(int order, int first, int second) {
        history.record(town);
        return kept(town.obey(order, first, second));
    }

    /** Passes a change's answer on; the state ahead of it goes into the history only without an error. */
    private int kept(int answer) {
        if (answer >= 0) {
            history.keep();
        }
        return answer;
    }

    private static boolean isPlace(int place) {
        return place >= 1 && place <= PLACES;
    }

    /** The step of a walk, from 0, on which a place is passed: odd places upwards, then even ones downwards. */
    private static int stepOf(int place) {
        return place % 2 == 1 ? place / 2 : PLACES - place / 2;
    }

    private static int unitsFor(int used, int balance) {
        if (balance > 0) {
            return used / UNIT;
        }
        if (balance < 0) {
            return (used + UNIT - 1) / UNIT;
        }
        return (used + UNIT / 2) / UNIT;
    }

    /** The bits of a float below 2 to the 24th that is 0, or not too small to be told with all of its digits. */
    private static int bitsOf(float value) {
        if (!(value > 0f)) {
            return 0;
        }
        float digits = value;
        int exponent = 150;
        for (; exponent > 1 && digits < 8388608f; exponent--) {
            digits *= 2f;
        }
        return (exponent << 23) + (int) digits - 8388608;
    }

    /** A house, with its meter and what it was billed. */
    private static final class House {
        private int street;
        private int place;
        private int dial;
        /** The dial at the latest reading, or as the meter came. */
        private int dialBefore;
        private int flow;
        private boolean isLocked;
        private int balance;
        private int latestDay = NONE;
        private int readings;
        private int units;
        private int timesHouseWronged;
        private int timesCompanyWronged;
        private int refunds;
        private int metersChanged;

        void copyFrom(House other) {
            street = other.street;
            place = other.place;
            dial = other.dial;
            dialBefore = other.dialBefore;
            flow = other.flow;
            isLocked = other.isLocked;
            balance = other.balance;
            latestDay = other.latestDay;
            readings = other.readings;
            units = other.units;
            timesHouseWronged = other.timesHouseWronged;
            timesCompanyWronged = other.timesCompanyWronged;
            refunds = other.refunds;
            metersChanged = other.metersChanged;
        }

        int used() {
            return dial >= dialBefore ? dial - dialBefore : dial - dialBefore + ROUND;
        }

        int reasonOn(int day) {
            return isLocked ? LOCKED : latestDay == day ? READ_TODAY : 0;
        }

        void goOn() {
            dial += flow;
            if (dial >= ROUND) {
                dial -= ROUND;
            }
        }

        void settle(int day, int used, int billed) {
            balance += UNIT * billed - used;
            dialBefore = dial;
            latestDay = day;
            readings++;
            units += billed;
            if (balance > 0) {
                timesHouseWronged++;
            } else if (balance < 0) {
                timesCompanyWronged++;
            }
        }

        void renewMeter() {
            dial = 0;
            dialBefore = 0;
            metersChanged++;
        }

        int fact(int what) {
            switch (what) {
                case 0: return street;
                case 1: return place;
                case 2: return dial;
                case 3: return used();
                case 4: return TOLD_BALANCE + balance;
                case 5: return flow;
                case 6: return isLocked ? 1 : 0;
                case 7: return latestDay == NONE ? NOT_FOUND : latestDay;
                case 8: return readings;
                case 9: return units;
                case 10: return timesHouseWronged;
                case 11: return timesCompanyWronged;
                case 12: return refunds;
                case 13: return metersChanged;
                default: return INVALID_ARGUMENT;
            }
        }
    }

    /** The places of a street, by the steps of a walk. */
    private static final class Street {
        private final int[] houses = new int[PLACES];
        /** Where a house was read the latest on a walk. */
        private int latestStep = NONE;

        Street() {
            for (int step = 0; step < PLACES; step++) {
                houses[step] = NONE;
            }
        }

        void copyFrom(Street other) {
            System.arraycopy(other.houses, 0, houses, 0, PLACES);
            latestStep = other.latestStep;
        }

        /** The step that comes so many behind the one from which the next walk begins. */
        int stepAhead(int many) {
            return (latestStep + 1 + many) % PLACES;
        }

        int houseOn(int step) {
            return step >= 0 && step < PLACES ? houses[step] : NONE;
        }

        void putHouse(int step, int number) {
            if (step >= 0 && step < PLACES) {
                houses[step] = number;
            }
        }

        int houseRanked(int rank) {
            int ahead = 0;
            for (int many = 0; many < PLACES; many++) {
                int house = houseOn(stepAhead(many));
                if (house != NONE) {
                    if (ahead == rank) {
                        return house;
                    }
                    ahead++;
                }
            }
            return NOT_FOUND;
        }
    }

    /** The latest readings, in rows that are used round and round. */
    private static final class Ledger {
        private static final int ROWS = 10;
        private static final int FACTS = 6;
        private final int[] facts = new int[ROWS * FACTS];
        /** The row of the next entry. */
        private int nextRow;
        private int size;

        void copyFrom(Ledger other) {
            System.arraycopy(other.facts, 0, facts, 0, ROWS * FACTS);
            nextRow = other.nextRow;
            size = other.size;
        }

        void add(int day, int house, int used, int units, int balance) {
            if (nextRow < 0 || nextRow >= ROWS) {
                return;
            }
            int from = nextRow * FACTS;
            facts[from] = day;
            facts[from + 1] = house;
            facts[from + 2] = used;
            facts[from + 3] = units;
            facts[from + 4] = UNIT * units < used ? 0 : UNIT * units > used ? 1 : 2;
            facts[from + 5] = TOLD_BALANCE + balance;
            nextRow = (nextRow + 1) % ROWS;
            if (size < ROWS) {
                size++;
            }
        }

        int entry(int ago, int what) {
            if (ago < 0 || what < 0 || what >= FACTS) {
                return INVALID_ARGUMENT;
            }
            if (ago >= size) {
                return NOT_FOUND;
            }
            int at = (nextRow + ROWS - 1 - ago) % ROWS * FACTS + what;
            return at >= 0 && at < ROWS * FACTS ? facts[at] : NOT_FOUND;
        }
    }

    /** All that a change can change: everything but the text. */
    private static final class Town {
        /**
         * All are made at once, and houseCount tells how many have come. Those that have not are open, without a flow
         * and with a balance of 0: what is done to all houses, or told of them together, leaves them as they are.
         */
        private final House[] houses = new House[MOST_HOUSES];
        private final Street[] streets = new Street[STREETS];
        private final Ledger ledger = new Ledger();
        private final int[] settings = new int[SETTINGS];
        private int houseCount;
        private int now;
        private int readings;
        private int units;
        private int coins;
        private int hundredths;
        private int refunds;
        private int coinsBack;
        private int years;

        Town() {
            for (int number = 0; number < MOST_HOUSES; number++) {
                houses[number] = new House();
            }
            for (int street = 0; street < STREETS; street++) {
                streets[street] = new Street();
            }
            for (int what = 0; what < SETTINGS; what++) {
                settings[what] = SETTING_FIRST[what];
            }
        }

        void copyFrom(Town other) {
            for (int number = 0; number < MOST_HOUSES; number++) {
                houses[number].copyFrom(other.houses[number]);
            }
            for (int street = 0; street < STREETS; street++) {
                streets[street].copyFrom(other.streets[street]);
            }
            ledger.copyFrom(other.ledger);
            System.arraycopy(other.settings, 0, settings, 0, SETTINGS);
            houseCount = other.houseCount;
            now = other.now;
            readings = other.readings;
            units = other.units;
            coins = other.coins;
            hundredths = other.hundredths;
            refunds = other.refunds;
            coinsBack = other.coinsBack;
            years = other.years;
        }

        House houseNumbered(int number) {
            return number >= 0 && number < houseCount && number < MOST_HOUSES ? houses[number] : null;
        }

        Street streetNumbered(int number) {
            return number >= 0 && number < STREETS ? streets[number] : null;
        }

        /** Does what an order asks, and returns what the call for it returns. */
        int obey(int order, int first, int second) {
            switch (order) {
                case 'h': return addHouse(first, second);
                case 'f': return putFlow(first, second);
                case 'l': return turnLock(first);
                case 'r': return readIfOpen(first);
                case 'c': return changeMeter(first);
                case 'd':
                    if (first < 1 || first > MOST_DAYS) {
                        return INVALID_ARGUMENT;
                    }
                    return now + first > LAST_DAY ? LIMIT_REACHED : passDays(first);
                default: return INVALID_ARGUMENT;
            }
        }

        private int addHouse(int street, int place) {
            Street itsStreet = streetNumbered(street);
            if (itsStreet == null || !isPlace(place)) {
                return INVALID_ARGUMENT;
            }
            if (itsStreet.houseOn(stepOf(place)) != NONE) {
                return NOT_POSSIBLE;
            }
            if (houseCount >= MOST_HOUSES) {
                return LIMIT_REACHED;
            }
            House house = houses[houseCount];
            house.street = street;
            house.place = place;
            itsStreet.putHouse(stepOf(place), houseCount);
            houseCount++;
            return houseCount - 1;
        }

        private int putFlow(int number, int flow) {
            House house = houseNumbered(number);
            if (house == null || flow < 0 || flow > MOST_FLOW) {
                return INVALID_ARGUMENT;
            }
            int before = house.flow;
            house.flow = flow;
            return before;
        }

        int putLock(int number, boolean isLocked) {
            House house = houseNumbered(number);
            if (house == null) {
                return INVALID_ARGUMENT;
            }
            int before = house.isLocked ? 1 : 0;
            house.isLocked = isLocked;
            return before;
        }

        private int turnLock(int number) {
            House house = houseNumbered(number);
            return house == null ? INVALID_ARGUMENT : putLock(number, !house.isLocked);
        }

        int putSetting(int what, int value) {
            if (what < 0 || what >= SETTINGS || value < SETTING_LEAST[what] || value > SETTING_MOST[what]) {
                return INVALID_ARGUMENT;
            }
            int before = settings[what];
            settings[what] = value;
            return before;
        }

        private int readIfOpen(int number) {
            House house = houseNumbered(number);
            if (house == null) {
                return INVALID_ARGUMENT;
            }
            return house.reasonOn(now) == 0 ? readMeter(house, number) : NOT_POSSIBLE;
        }

        private int changeMeter(int number) {
            House house = houseNumbered(number);
            if (house == null) {
                return INVALID_ARGUMENT;
            }
            int billed = readMeter(house, number);
            house.renewMeter();
            return billed;
        }

        private int readMeter(House house, int number) {
            int used = house.used();
            int billed = unitsFor(used, house.balance);
            house.settle(now, used, billed);
            ledger.add(now, number, used, billed, house.balance);
            readings++;
            units += billed;
            coins += billed * settings[PRICE];
            hundredths += used;
            return billed;
        }

        /** Lets days pass, also behind the last day: the limit is one of the call days() alone. */
        int passDays(int many) {
            int before = readings;
            for (int day = 0; day < many; day++) {
                for (House house : houses) {
                    house.goOn();
                }
                now++;
                Street street = streetNumbered(now % STREETS);
                if (street != null) {
                    walk(street);
                }
                int year = settings[YEAR];
                if (year > 0 && now % year == 0) {
                    endYear();
                }
            }
            return readings - before;
        }

        private void walk(Street street) {
            int first = street.stepAhead(0);
            int toRead = settings[HOUSES_A_DAY];
            for (int tried = 0; tried < PLACES && toRead > 0; tried++) {
                int step = (first + tried) % PLACES;
                int number = street.houseOn(step);
                House house = houseNumbered(number);
                if (house != null && house.reasonOn(now) == 0) {
                    readMeter(house, number);
                    street.latestStep = step;
                    toRead--;
                }
            }
        }

        private void endYear() {
            years++;
            for (House house : houses) {
                if (house.balance >= settings[REFUND_FROM]) {
                    house.balance -= UNIT;
                    house.refunds++;
                    refunds++;
                    coinsBack += settings[PRICE];
                }
            }
        }

        int passUntilRefund(int number) {
            House house = houseNumbered(number);
            if (house == null) {
                return INVALID_ARGUMENT;
            }
            int before = house.refunds;
            for (int day = 1; day <= MOST_DAYS_TO_REFUND; day++) {
                passDays(1);
                if (house.refunds > before) {
                    return day;
                }
            }
            return NOT_FOUND;
        }

        int houseByBalance(int rank) {
            for (int number = 0; number < houseCount && number < MOST_HOUSES; number++) {
                if (housesAhead(number, houses[number].balance) == rank) {
                    return number;
                }
            }
            return NOT_FOUND;
        }

        /** How many houses come ahead of one with this number and balance. */
        private int housesAhead(int number, int balance) {
            int ahead = 0;
            for (int other = 0; other < houseCount && other < MOST_HOUSES; other++) {
                int otherBalance = houses[other].balance;
                if (otherBalance > balance || otherBalance == balance && other < number) {
                    ahead++;
                }
            }
            return ahead;
        }

        int number(int what) {
            switch (what) {
                case 0: return now;
                case 1: return houseCount;
                case 2: return housesLocked();
                case 3: return readings;
                case 4: return units;
                case 5: return coins;
                case 6: return hundredths;
                case 7: return refunds;
                case 8: return coinsBack;
                case 9: return housesBetween(1, UNIT);
                case 10: return housesBetween(-UNIT, -1);
                case 11: return TOLD_BALANCES + balances();
                case 12: return TOLD_BALANCES + UNIT * units - hundredths - UNIT * refunds;
                case 13: return years;
                case 14: return ledger.size;
                default: return what >= 20 && what < 20 + SETTINGS ? settings[what - 20] : INVALID_ARGUMENT;
            }
        }

        private int housesLocked() {
            int many = 0;
            for (House house : houses) {
                if (house.isLocked) {
                    many++;
                }
            }
            return many;
        }

        /** How many houses have a balance from one number to another; all are between -UNIT and UNIT. */
        private int housesBetween(int least, int greatest) {
            int many = 0;
            for (House house : houses) {
                if (house.balance >= least && house.balance <= greatest) {
                    many++;
                }
            }
            return many;
        }

        private int balances() {
            int sum = 0;
            for (House house : houses) {
                sum += house.balance;
            }
            return sum;
        }

        int balancesWithoutSigns() {
            int sum = 0;
            for (House house : houses) {
                sum += Math.abs(house.balance);
            }
            return sum;
        }
    }

    /** The states ahead of the latest changes, in slots that are used round and round. */
    private static final class History {
        private static final int MOST_STATES = 4;
        /** One more than are kept: a change records ahead of it, and may return an error still. */
        private static final int SLOTS = MOST_STATES + 1;
        private final Town[] states = new Town[SLOTS];
        private int freeSlot;
        private int size;

        History() {
            for (int slot = 0; slot < SLOTS; slot++) {
                states[slot] = new Town();
            }
        }

        void record(Town town) {
            if (freeSlot >= 0 && freeSlot < SLOTS) {
                states[freeSlot].copyFrom(town);
            }
        }

        void keep() {
            freeSlot = (freeSlot + 1) % SLOTS;
            if (size < MOST_STATES) {
                size++;
            }
        }

        int restore(Town town) {
            int latest = (freeSlot + SLOTS - 1) % SLOTS;
            if (size <= 0 || latest < 0 || latest >= SLOTS) {
                return NOT_POSSIBLE;
            }
            town.copyFrom(states[latest]);
            freeSlot = latest;
            size--;
            return size;
        }
    }

    /** The text, how far it was gone through, and what was found there. */
    private static final class Orders {
        private static final int MOST_CHARACTERS = 60;
        private static final int MOST_DIGITS = 3;
        private final int[] text = new int[MOST_CHARACTERS];
        private int length;
        private int position;
        /** The order that was taken the latest: its letter, its numbers and where it begins. */
        private int letter;
        private int first;
        private int second;
        private int start;
        /** How many orders were done, and why the one behind them can't be (0: there is none). */
        private int done;
        private int reason;
        private int cause;

        int append(int character) {
            if (character < 32 || character > 126) {
                return INVALID_ARGUMENT;
            }
            if (length >= MOST_CHARACTERS) {
                return LIMIT_REACHED;
            }
            text[length] = character;
            length++;
            return length;
        }

        int empty() {
            int before = length;
            length = 0;
            return before;
        }

        /** Does the orders in a town, up to the first one that is not possible. */
        void doAllIn(Town town) {
            position = 0;
            reason = 0;
            cause = 0;
            done = 0;
            for (int order = 0; order < MOST_CHARACTERS && position < length; order++) {
                start = position;
                if (!takeOrder()) {
                    reason = NOT_OF_THE_FORM;
                    cause = position - start;
                    return;
                }
                int answer = town.obey(letter, first, second);
                if (answer < 0) {
                    reason = WITH_AN_ERROR;
                    cause = answer;
                    return;
                }
                done++;
            }
        }

        int faultFact(int what) {
            if (reason == 0) {
                return NOT_FOUND;
            }
            return what == 0 ? start : what == 1 ? reason : cause;
        }

        /** Whether an order is of the form; if not, the position is where it breaks off. */
        private boolean takeOrder() {
            letter = sign();
            second = 0;
            if (!isLetterOfOrder(letter)) {
                return false;
            }
            position++;
            first = takeNumber();
            if (first == NONE) {
                return false;
            }
            if (letter == 'h' || letter == 'f') {
                if (!takeSign(',')) {
                    return false;
                }
                second = takeNumber();
                if (second == NONE) {
                    return false;
                }
            }
            return takeSign(';');
        }

        private int takeNumber() {
            int number = NONE;
            for (int digits = 0; digits < MOST_DIGITS && isDigit(sign()); digits++) {
                number = 10 * Math.max(number, 0) + sign() - '0';
                position++;
            }
            return number;
        }

        private boolean takeSign(int wanted) {
            if (sign() != wanted) {
                return false;
            }
            position++;
            return true;
        }

        private int sign() {
            return position >= 0 && position < length && position < MOST_CHARACTERS ? text[position] : NONE;
        }

        private static boolean isLetterOfOrder(int sign) {
            return sign == 'h' || sign == 'f' || sign == 'l' || sign == 'r' || sign == 'c' || sign == 'd';
        }

        private static boolean isDigit(int sign) {
            return sign >= '0' && sign <= '9';
        }
    }
}
